section
-- ===== PART A: goes FIRST, ahead of the names: the tables' words, and 'selects' of the private methods out of them =====
/-- a private method of a class that the tables say can be made, by its rows of tables_1 -/
def lw_okq (q : MethodName × Nat) : Prop := (q.1.cls ≠ "java/lang/invoke/MethodHandle" ∧ q.1.cls ≠ "java/lang/invoke/VarHandle") ∧ Cond.instantiable q.1.cls q.2 ∈ tables_1 ∧ Cond.privateMethod q.1 ∈ tables_1 ∧ Cond.instanceMethod q.1 ∈ tables_1
theorem lw_p0 : lw_okq (⟨"SleepingIslands$Chip", "clear", "()V"⟩, 19) := ⟨⟨by decide +kernel, by decide +kernel⟩, List.mem_of_getElem? (i := 18) (by decide +kernel), List.mem_of_getElem? (i := 24) (by decide +kernel), List.mem_of_getElem? (i := 25) (by decide +kernel)⟩
theorem lw_p1 : lw_okq (⟨"SleepingIslands$ChipReader", "beginIsland", "()V"⟩, 7) := ⟨⟨by decide +kernel, by decide +kernel⟩, List.mem_of_getElem? (i := 122) (by decide +kernel), List.mem_of_getElem? (i := 130) (by decide +kernel), List.mem_of_getElem? (i := 131) (by decide +kernel)⟩
theorem lw_p2 : lw_okq (⟨"SleepingIslands", "setCurrent", "(I)I"⟩, 8) := ⟨⟨by decide +kernel, by decide +kernel⟩, List.mem_of_getElem? (i := 10) (by decide +kernel), List.mem_of_getElem? (i := 203) (by decide +kernel), List.mem_of_getElem? (i := 204) (by decide +kernel)⟩
theorem lw_p3 : lw_okq (⟨"SleepingIslands$History", "record", "(LSleepingIslands$Chip;)V"⟩, 2) := ⟨⟨by decide +kernel, by decide +kernel⟩, List.mem_of_getElem? (i := 157) (by decide +kernel), List.mem_of_getElem? (i := 210) (by decide +kernel), List.mem_of_getElem? (i := 211) (by decide +kernel)⟩
theorem lw_p4 : lw_okq (⟨"SleepingIslands$History", "dropOldest", "()V"⟩, 2) := ⟨⟨by decide +kernel, by decide +kernel⟩, List.mem_of_getElem? (i := 157) (by decide +kernel), List.mem_of_getElem? (i := 214) (by decide +kernel), List.mem_of_getElem? (i := 215) (by decide +kernel)⟩
theorem lw_p5 : lw_okq (⟨"SleepingIslands$History", "stateAt", "(I)LSleepingIslands$Chip;"⟩, 2) := ⟨⟨by decide +kernel, by decide +kernel⟩, List.mem_of_getElem? (i := 157) (by decide +kernel), List.mem_of_getElem? (i := 218) (by decide +kernel), List.mem_of_getElem? (i := 219) (by decide +kernel)⟩
theorem lw_p6 : lw_okq (⟨"SleepingIslands$Chip", "copyFrom", "(LSleepingIslands$Chip;)V"⟩, 19) := ⟨⟨by decide +kernel, by decide +kernel⟩, List.mem_of_getElem? (i := 18) (by decide +kernel), List.mem_of_getElem? (i := 222) (by decide +kernel), List.mem_of_getElem? (i := 223) (by decide +kernel)⟩
theorem lw_p7 : lw_okq (⟨"SleepingIslands", "setAsking", "(I)I"⟩, 8) := ⟨⟨by decide +kernel, by decide +kernel⟩, List.mem_of_getElem? (i := 10) (by decide +kernel), List.mem_of_getElem? (i := 226) (by decide +kernel), List.mem_of_getElem? (i := 227) (by decide +kernel)⟩
theorem lw_p8 : lw_okq (⟨"SleepingIslands$Chip", "addIsland", "(ZZIII)V"⟩, 19) := ⟨⟨by decide +kernel, by decide +kernel⟩, List.mem_of_getElem? (i := 18) (by decide +kernel), List.mem_of_getElem? (i := 234) (by decide +kernel), List.mem_of_getElem? (i := 235) (by decide +kernel)⟩
theorem lw_p9 : lw_okq (⟨"SleepingIslands$ChipReader", "findFault", "(LSleepingIslands$Pad;)I"⟩, 7) := ⟨⟨by decide +kernel, by decide +kernel⟩, List.mem_of_getElem? (i := 122) (by decide +kernel), List.mem_of_getElem? (i := 245) (by decide +kernel), List.mem_of_getElem? (i := 246) (by decide +kernel)⟩
theorem lw_p10 : lw_okq (⟨"SleepingIslands$ChipReader", "takes", "(C)Z"⟩, 7) := ⟨⟨by decide +kernel, by decide +kernel⟩, List.mem_of_getElem? (i := 122) (by decide +kernel), List.mem_of_getElem? (i := 250) (by decide +kernel), List.mem_of_getElem? (i := 251) (by decide +kernel)⟩
theorem lw_p11 : lw_okq (⟨"SleepingIslands$ChipReader", "takesIsolator", "(C)Z"⟩, 7) := ⟨⟨by decide +kernel, by decide +kernel⟩, List.mem_of_getElem? (i := 122) (by decide +kernel), List.mem_of_getElem? (i := 254) (by decide +kernel), List.mem_of_getElem? (i := 255) (by decide +kernel)⟩
theorem lw_p12 : lw_okq (⟨"SleepingIslands$ChipReader", "takesKeeper", "(C)Z"⟩, 7) := ⟨⟨by decide +kernel, by decide +kernel⟩, List.mem_of_getElem? (i := 122) (by decide +kernel), List.mem_of_getElem? (i := 258) (by decide +kernel), List.mem_of_getElem? (i := 259) (by decide +kernel)⟩
theorem lw_p13 : lw_okq (⟨"SleepingIslands$ChipReader", "takesRise", "(C)Z"⟩, 7) := ⟨⟨by decide +kernel, by decide +kernel⟩, List.mem_of_getElem? (i := 122) (by decide +kernel), List.mem_of_getElem? (i := 262) (by decide +kernel), List.mem_of_getElem? (i := 263) (by decide +kernel)⟩
theorem lw_p14 : lw_okq (⟨"SleepingIslands$ChipReader", "takesComma", "(C)Z"⟩, 7) := ⟨⟨by decide +kernel, by decide +kernel⟩, List.mem_of_getElem? (i := 122) (by decide +kernel), List.mem_of_getElem? (i := 266) (by decide +kernel), List.mem_of_getElem? (i := 267) (by decide +kernel)⟩
theorem lw_p15 : lw_okq (⟨"SleepingIslands$ChipReader", "takesLoad", "(C)Z"⟩, 7) := ⟨⟨by decide +kernel, by decide +kernel⟩, List.mem_of_getElem? (i := 122) (by decide +kernel), List.mem_of_getElem? (i := 270) (by decide +kernel), List.mem_of_getElem? (i := 271) (by decide +kernel)⟩
def lw_privs_1 : List (MethodName × Nat) := [(⟨"SleepingIslands$Chip", "clear", "()V"⟩, 19), (⟨"SleepingIslands$ChipReader", "beginIsland", "()V"⟩, 7), (⟨"SleepingIslands", "setCurrent", "(I)I"⟩, 8), (⟨"SleepingIslands$History", "record", "(LSleepingIslands$Chip;)V"⟩, 2), (⟨"SleepingIslands$History", "dropOldest", "()V"⟩, 2), (⟨"SleepingIslands$History", "stateAt", "(I)LSleepingIslands$Chip;"⟩, 2), (⟨"SleepingIslands$Chip", "copyFrom", "(LSleepingIslands$Chip;)V"⟩, 19), (⟨"SleepingIslands", "setAsking", "(I)I"⟩, 8), (⟨"SleepingIslands$Chip", "addIsland", "(ZZIII)V"⟩, 19), (⟨"SleepingIslands$ChipReader", "findFault", "(LSleepingIslands$Pad;)I"⟩, 7), (⟨"SleepingIslands$ChipReader", "takes", "(C)Z"⟩, 7), (⟨"SleepingIslands$ChipReader", "takesIsolator", "(C)Z"⟩, 7), (⟨"SleepingIslands$ChipReader", "takesKeeper", "(C)Z"⟩, 7), (⟨"SleepingIslands$ChipReader", "takesRise", "(C)Z"⟩, 7), (⟨"SleepingIslands$ChipReader", "takesComma", "(C)Z"⟩, 7), (⟨"SleepingIslands$ChipReader", "takesLoad", "(C)Z"⟩, 7)]
theorem lw_r1 : ∀ q ∈ lw_privs_1, lw_okq q := List.forall_mem_cons.mpr ⟨lw_p0, List.forall_mem_cons.mpr ⟨lw_p1, List.forall_mem_cons.mpr ⟨lw_p2, List.forall_mem_cons.mpr ⟨lw_p3, List.forall_mem_cons.mpr ⟨lw_p4, List.forall_mem_cons.mpr ⟨lw_p5, List.forall_mem_cons.mpr ⟨lw_p6, List.forall_mem_cons.mpr ⟨lw_p7, List.forall_mem_cons.mpr ⟨lw_p8, List.forall_mem_cons.mpr ⟨lw_p9, List.forall_mem_cons.mpr ⟨lw_p10, List.forall_mem_cons.mpr ⟨lw_p11, List.forall_mem_cons.mpr ⟨lw_p12, List.forall_mem_cons.mpr ⟨lw_p13, List.forall_mem_cons.mpr ⟨lw_p14, List.forall_mem_cons.mpr ⟨lw_p15, fun _ h => absurd h List.not_mem_nil⟩⟩⟩⟩⟩⟩⟩⟩⟩⟩⟩⟩⟩⟩⟩⟩
theorem lw_p16 : lw_okq (⟨"SleepingIslands$ChipReader", "takesArrow", "(C)Z"⟩, 7) := ⟨⟨by decide +kernel, by decide +kernel⟩, List.mem_of_getElem? (i := 122) (by decide +kernel), List.mem_of_getElem? (i := 275) (by decide +kernel), List.mem_of_getElem? (i := 276) (by decide +kernel)⟩
theorem lw_p17 : lw_okq (⟨"SleepingIslands$ChipReader", "takesEnd", "(C)Z"⟩, 7) := ⟨⟨by decide +kernel, by decide +kernel⟩, List.mem_of_getElem? (i := 122) (by decide +kernel), List.mem_of_getElem? (i := 279) (by decide +kernel), List.mem_of_getElem? (i := 280) (by decide +kernel)⟩
theorem lw_p18 : lw_okq (⟨"SleepingIslands$ChipReader", "endIsland", "()V"⟩, 7) := ⟨⟨by decide +kernel, by decide +kernel⟩, List.mem_of_getElem? (i := 122) (by decide +kernel), List.mem_of_getElem? (i := 283) (by decide +kernel), List.mem_of_getElem? (i := 284) (by decide +kernel)⟩
theorem lw_p19 : lw_okq (⟨"SleepingIslands$ChipReader", "takesNumber", "(C)Z"⟩, 7) := ⟨⟨by decide +kernel, by decide +kernel⟩, List.mem_of_getElem? (i := 122) (by decide +kernel), List.mem_of_getElem? (i := 288) (by decide +kernel), List.mem_of_getElem? (i := 289) (by decide +kernel)⟩
theorem lw_p20 : lw_okq (⟨"SleepingIslands$Chip", "hasAllThatAreRead", "()Z"⟩, 19) := ⟨⟨by decide +kernel, by decide +kernel⟩, List.mem_of_getElem? (i := 18) (by decide +kernel), List.mem_of_getElem? (i := 292) (by decide +kernel), List.mem_of_getElem? (i := 293) (by decide +kernel)⟩
theorem lw_p21 : lw_okq (⟨"SleepingIslands$Chip", "has", "(I)Z"⟩, 19) := ⟨⟨by decide +kernel, by decide +kernel⟩, List.mem_of_getElem? (i := 18) (by decide +kernel), List.mem_of_getElem? (i := 301) (by decide +kernel), List.mem_of_getElem? (i := 302) (by decide +kernel)⟩
theorem lw_p22 : lw_okq (⟨"SleepingIslands$Chip", "readersOf", "(I)I"⟩, 19) := ⟨⟨by decide +kernel, by decide +kernel⟩, List.mem_of_getElem? (i := 18) (by decide +kernel), List.mem_of_getElem? (i := 316) (by decide +kernel), List.mem_of_getElem? (i := 317) (by decide +kernel)⟩
theorem lw_p23 : lw_okq (⟨"SleepingIslands$Chip", "islandsThatAre", "(I)I"⟩, 19) := ⟨⟨by decide +kernel, by decide +kernel⟩, List.mem_of_getElem? (i := 18) (by decide +kernel), List.mem_of_getElem? (i := 321) (by decide +kernel), List.mem_of_getElem? (i := 322) (by decide +kernel)⟩
theorem lw_p24 : lw_okq (⟨"SleepingIslands$Chip", "orderToWake", "(I)V"⟩, 19) := ⟨⟨by decide +kernel, by decide +kernel⟩, List.mem_of_getElem? (i := 18) (by decide +kernel), List.mem_of_getElem? (i := 335) (by decide +kernel), List.mem_of_getElem? (i := 336) (by decide +kernel)⟩
theorem lw_p25 : lw_okq (⟨"SleepingIslands$Chip", "noiseSoFar", "()I"⟩, 19) := ⟨⟨by decide +kernel, by decide +kernel⟩, List.mem_of_getElem? (i := 18) (by decide +kernel), List.mem_of_getElem? (i := 343) (by decide +kernel), List.mem_of_getElem? (i := 344) (by decide +kernel)⟩
theorem lw_p26 : lw_okq (⟨"SleepingIslands$Chip", "letPass", "(I)V"⟩, 19) := ⟨⟨by decide +kernel, by decide +kernel⟩, List.mem_of_getElem? (i := 18) (by decide +kernel), List.mem_of_getElem? (i := 347) (by decide +kernel), List.mem_of_getElem? (i := 348) (by decide +kernel)⟩
theorem lw_p27 : lw_okq (⟨"SleepingIslands$Chip", "readOneAnother", "()V"⟩, 19) := ⟨⟨by decide +kernel, by decide +kernel⟩, List.mem_of_getElem? (i := 18) (by decide +kernel), List.mem_of_getElem? (i := 351) (by decide +kernel), List.mem_of_getElem? (i := 352) (by decide +kernel)⟩
theorem lw_p28 : lw_okq (⟨"SleepingIslands$Chip", "whatTells", "(I)I"⟩, 19) := ⟨⟨by decide +kernel, by decide +kernel⟩, List.mem_of_getElem? (i := 18) (by decide +kernel), List.mem_of_getElem? (i := 355) (by decide +kernel), List.mem_of_getElem? (i := 356) (by decide +kernel)⟩
theorem lw_p29 : lw_okq (⟨"SleepingIslands$Chip", "isHeard", "(I)Z"⟩, 19) := ⟨⟨by decide +kernel, by decide +kernel⟩, List.mem_of_getElem? (i := 18) (by decide +kernel), List.mem_of_getElem? (i := 359) (by decide +kernel), List.mem_of_getElem? (i := 360) (by decide +kernel)⟩
theorem lw_p30 : lw_okq (⟨"SleepingIslands$Chip", "sumTold", "(I)I"⟩, 19) := ⟨⟨by decide +kernel, by decide +kernel⟩, List.mem_of_getElem? (i := 18) (by decide +kernel), List.mem_of_getElem? (i := 363) (by decide +kernel), List.mem_of_getElem? (i := 364) (by decide +kernel)⟩
theorem lw_p31 : lw_okq (⟨"SleepingIslands$Chip", "moveOn", "()V"⟩, 19) := ⟨⟨by decide +kernel, by decide +kernel⟩, List.mem_of_getElem? (i := 18) (by decide +kernel), List.mem_of_getElem? (i := 368) (by decide +kernel), List.mem_of_getElem? (i := 369) (by decide +kernel)⟩
def lw_privs_2 : List (MethodName × Nat) := [(⟨"SleepingIslands$ChipReader", "takesArrow", "(C)Z"⟩, 7), (⟨"SleepingIslands$ChipReader", "takesEnd", "(C)Z"⟩, 7), (⟨"SleepingIslands$ChipReader", "endIsland", "()V"⟩, 7), (⟨"SleepingIslands$ChipReader", "takesNumber", "(C)Z"⟩, 7), (⟨"SleepingIslands$Chip", "hasAllThatAreRead", "()Z"⟩, 19), (⟨"SleepingIslands$Chip", "has", "(I)Z"⟩, 19), (⟨"SleepingIslands$Chip", "readersOf", "(I)I"⟩, 19), (⟨"SleepingIslands$Chip", "islandsThatAre", "(I)I"⟩, 19), (⟨"SleepingIslands$Chip", "orderToWake", "(I)V"⟩, 19), (⟨"SleepingIslands$Chip", "noiseSoFar", "()I"⟩, 19), (⟨"SleepingIslands$Chip", "letPass", "(I)V"⟩, 19), (⟨"SleepingIslands$Chip", "readOneAnother", "()V"⟩, 19), (⟨"SleepingIslands$Chip", "whatTells", "(I)I"⟩, 19), (⟨"SleepingIslands$Chip", "isHeard", "(I)Z"⟩, 19), (⟨"SleepingIslands$Chip", "sumTold", "(I)I"⟩, 19), (⟨"SleepingIslands$Chip", "moveOn", "()V"⟩, 19)]
theorem lw_r2 : ∀ q ∈ lw_privs_2, lw_okq q := List.forall_mem_cons.mpr ⟨lw_p16, List.forall_mem_cons.mpr ⟨lw_p17, List.forall_mem_cons.mpr ⟨lw_p18, List.forall_mem_cons.mpr ⟨lw_p19, List.forall_mem_cons.mpr ⟨lw_p20, List.forall_mem_cons.mpr ⟨lw_p21, List.forall_mem_cons.mpr ⟨lw_p22, List.forall_mem_cons.mpr ⟨lw_p23, List.forall_mem_cons.mpr ⟨lw_p24, List.forall_mem_cons.mpr ⟨lw_p25, List.forall_mem_cons.mpr ⟨lw_p26, List.forall_mem_cons.mpr ⟨lw_p27, List.forall_mem_cons.mpr ⟨lw_p28, List.forall_mem_cons.mpr ⟨lw_p29, List.forall_mem_cons.mpr ⟨lw_p30, List.forall_mem_cons.mpr ⟨lw_p31, fun _ h => absurd h List.not_mem_nil⟩⟩⟩⟩⟩⟩⟩⟩⟩⟩⟩⟩⟩⟩⟩⟩
theorem lw_p32 : lw_okq (⟨"SleepingIslands$Chip", "endFalling", "()V"⟩, 19) := ⟨⟨by decide +kernel, by decide +kernel⟩, List.mem_of_getElem? (i := 18) (by decide +kernel), List.mem_of_getElem? (i := 372) (by decide +kernel), List.mem_of_getElem? (i := 373) (by decide +kernel)⟩
theorem lw_p33 : lw_okq (⟨"SleepingIslands$Chip", "keepOrLose", "(I)V"⟩, 19) := ⟨⟨by decide +kernel, by decide +kernel⟩, List.mem_of_getElem? (i := 18) (by decide +kernel), List.mem_of_getElem? (i := 376) (by decide +kernel), List.mem_of_getElem? (i := 377) (by decide +kernel)⟩
theorem lw_p34 : lw_okq (⟨"SleepingIslands$Chip", "goOnRising", "()V"⟩, 19) := ⟨⟨by decide +kernel, by decide +kernel⟩, List.mem_of_getElem? (i := 18) (by decide +kernel), List.mem_of_getElem? (i := 380) (by decide +kernel), List.mem_of_getElem? (i := 381) (by decide +kernel)⟩
theorem lw_p35 : lw_okq (⟨"SleepingIslands$Chip", "endRising", "(I)V"⟩, 19) := ⟨⟨by decide +kernel, by decide +kernel⟩, List.mem_of_getElem? (i := 18) (by decide +kernel), List.mem_of_getElem? (i := 384) (by decide +kernel), List.mem_of_getElem? (i := 385) (by decide +kernel)⟩
theorem lw_p36 : lw_okq (⟨"SleepingIslands$Chip", "askForSleepers", "()V"⟩, 19) := ⟨⟨by decide +kernel, by decide +kernel⟩, List.mem_of_getElem? (i := 18) (by decide +kernel), List.mem_of_getElem? (i := 388) (by decide +kernel), List.mem_of_getElem? (i := 389) (by decide +kernel)⟩
theorem lw_p37 : lw_okq (⟨"SleepingIslands$Chip", "beginRising", "()V"⟩, 19) := ⟨⟨by decide +kernel, by decide +kernel⟩, List.mem_of_getElem? (i := 18) (by decide +kernel), List.mem_of_getElem? (i := 393) (by decide +kernel), List.mem_of_getElem? (i := 394) (by decide +kernel)⟩
theorem lw_p38 : lw_okq (⟨"SleepingIslands$Chip", "risingLoad", "()I"⟩, 19) := ⟨⟨by decide +kernel, by decide +kernel⟩, List.mem_of_getElem? (i := 18) (by decide +kernel), List.mem_of_getElem? (i := 397) (by decide +kernel), List.mem_of_getElem? (i := 398) (by decide +kernel)⟩
theorem lw_p39 : lw_okq (⟨"SleepingIslands$Chip", "placeInQueue", "(I)I"⟩, 19) := ⟨⟨by decide +kernel, by decide +kernel⟩, List.mem_of_getElem? (i := 18) (by decide +kernel), List.mem_of_getElem? (i := 409) (by decide +kernel), List.mem_of_getElem? (i := 410) (by decide +kernel)⟩
theorem lw_p40 : lw_okq (⟨"SleepingIslands$Chip", "islandInQueue", "(I)I"⟩, 19) := ⟨⟨by decide +kernel, by decide +kernel⟩, List.mem_of_getElem? (i := 18) (by decide +kernel), List.mem_of_getElem? (i := 422) (by decide +kernel), List.mem_of_getElem? (i := 423) (by decide +kernel)⟩
theorem lw_p41 : lw_okq (⟨"SleepingIslands$Chip", "sumOfValues", "()I"⟩, 19) := ⟨⟨by decide +kernel, by decide +kernel⟩, List.mem_of_getElem? (i := 18) (by decide +kernel), List.mem_of_getElem? (i := 430) (by decide +kernel), List.mem_of_getElem? (i := 431) (by decide +kernel)⟩
theorem lw_p42 : lw_okq (⟨"SleepingIslands", "ticksUntilAllAwake", "(II)I"⟩, 8) := ⟨⟨by decide +kernel, by decide +kernel⟩, List.mem_of_getElem? (i := 10) (by decide +kernel), List.mem_of_getElem? (i := 438) (by decide +kernel), List.mem_of_getElem? (i := 439) (by decide +kernel)⟩
theorem lw_p43 : lw_okq (⟨"SleepingIslands$Chip", "orderSleepersToWake", "()V"⟩, 19) := ⟨⟨by decide +kernel, by decide +kernel⟩, List.mem_of_getElem? (i := 18) (by decide +kernel), List.mem_of_getElem? (i := 442) (by decide +kernel), List.mem_of_getElem? (i := 443) (by decide +kernel)⟩
theorem lw_p44 : lw_okq (⟨"SleepingIslands$Chip", "areAllAwake", "()Z"⟩, 19) := ⟨⟨by decide +kernel, by decide +kernel⟩, List.mem_of_getElem? (i := 18) (by decide +kernel), List.mem_of_getElem? (i := 446) (by decide +kernel), List.mem_of_getElem? (i := 447) (by decide +kernel)⟩
theorem lw_p45 : lw_okq (⟨"SleepingIslands$Chip", "isAtRest", "()Z"⟩, 19) := ⟨⟨by decide +kernel, by decide +kernel⟩, List.mem_of_getElem? (i := 18) (by decide +kernel), List.mem_of_getElem? (i := 451) (by decide +kernel), List.mem_of_getElem? (i := 452) (by decide +kernel)⟩
theorem lw_p46 : lw_okq (⟨"SleepingIslands", "sleepsQuietly", "(II)Z"⟩, 8) := ⟨⟨by decide +kernel, by decide +kernel⟩, List.mem_of_getElem? (i := 10) (by decide +kernel), List.mem_of_getElem? (i := 464) (by decide +kernel), List.mem_of_getElem? (i := 465) (by decide +kernel)⟩
theorem lw_p47 : lw_okq (⟨"SleepingIslands$Pad", "append", "(C)V"⟩, 2) := ⟨⟨by decide +kernel, by decide +kernel⟩, List.mem_of_getElem? (i := 105) (by decide +kernel), List.mem_of_getElem? (i := 476) (by decide +kernel), List.mem_of_getElem? (i := 477) (by decide +kernel)⟩
def lw_privs_3 : List (MethodName × Nat) := [(⟨"SleepingIslands$Chip", "endFalling", "()V"⟩, 19), (⟨"SleepingIslands$Chip", "keepOrLose", "(I)V"⟩, 19), (⟨"SleepingIslands$Chip", "goOnRising", "()V"⟩, 19), (⟨"SleepingIslands$Chip", "endRising", "(I)V"⟩, 19), (⟨"SleepingIslands$Chip", "askForSleepers", "()V"⟩, 19), (⟨"SleepingIslands$Chip", "beginRising", "()V"⟩, 19), (⟨"SleepingIslands$Chip", "risingLoad", "()I"⟩, 19), (⟨"SleepingIslands$Chip", "placeInQueue", "(I)I"⟩, 19), (⟨"SleepingIslands$Chip", "islandInQueue", "(I)I"⟩, 19), (⟨"SleepingIslands$Chip", "sumOfValues", "()I"⟩, 19), (⟨"SleepingIslands", "ticksUntilAllAwake", "(II)I"⟩, 8), (⟨"SleepingIslands$Chip", "orderSleepersToWake", "()V"⟩, 19), (⟨"SleepingIslands$Chip", "areAllAwake", "()Z"⟩, 19), (⟨"SleepingIslands$Chip", "isAtRest", "()Z"⟩, 19), (⟨"SleepingIslands", "sleepsQuietly", "(II)Z"⟩, 8), (⟨"SleepingIslands$Pad", "append", "(C)V"⟩, 2)]
theorem lw_r3 : ∀ q ∈ lw_privs_3, lw_okq q := List.forall_mem_cons.mpr ⟨lw_p32, List.forall_mem_cons.mpr ⟨lw_p33, List.forall_mem_cons.mpr ⟨lw_p34, List.forall_mem_cons.mpr ⟨lw_p35, List.forall_mem_cons.mpr ⟨lw_p36, List.forall_mem_cons.mpr ⟨lw_p37, List.forall_mem_cons.mpr ⟨lw_p38, List.forall_mem_cons.mpr ⟨lw_p39, List.forall_mem_cons.mpr ⟨lw_p40, List.forall_mem_cons.mpr ⟨lw_p41, List.forall_mem_cons.mpr ⟨lw_p42, List.forall_mem_cons.mpr ⟨lw_p43, List.forall_mem_cons.mpr ⟨lw_p44, List.forall_mem_cons.mpr ⟨lw_p45, List.forall_mem_cons.mpr ⟨lw_p46, List.forall_mem_cons.mpr ⟨lw_p47, fun _ h => absurd h List.not_mem_nil⟩⟩⟩⟩⟩⟩⟩⟩⟩⟩⟩⟩⟩⟩⟩⟩
theorem lw_p48 : lw_okq (⟨"SleepingIslands$History", "takeBack", "(LSleepingIslands$Chip;)V"⟩, 2) := ⟨⟨by decide +kernel, by decide +kernel⟩, List.mem_of_getElem? (i := 157) (by decide +kernel), List.mem_of_getElem? (i := 492) (by decide +kernel), List.mem_of_getElem? (i := 493) (by decide +kernel)⟩
theorem lw_p49 : lw_okq (⟨"SleepingIslands", "slotOf", "(I)LSleepingIslands$Chip;"⟩, 8) := ⟨⟨by decide +kernel, by decide +kernel⟩, List.mem_of_getElem? (i := 10) (by decide +kernel), List.mem_of_getElem? (i := 500) (by decide +kernel), List.mem_of_getElem? (i := 501) (by decide +kernel)⟩
theorem lw_p50 : lw_okq (⟨"SleepingIslandsModel", "record", "()V"⟩, 16) := ⟨⟨by decide +kernel, by decide +kernel⟩, List.mem_of_getElem? (i := 508) (by decide +kernel), List.mem_of_getElem? (i := 573) (by decide +kernel), List.mem_of_getElem? (i := 574) (by decide +kernel)⟩
theorem lw_p51 : lw_okq (⟨"SleepingIslandsModel", "comes", "(IIIII)V"⟩, 16) := ⟨⟨by decide +kernel, by decide +kernel⟩, List.mem_of_getElem? (i := 508) (by decide +kernel), List.mem_of_getElem? (i := 584) (by decide +kernel), List.mem_of_getElem? (i := 585) (by decide +kernel)⟩
theorem lw_p52 : lw_okq (⟨"SleepingIslandsModel", "setPart", "(III)V"⟩, 16) := ⟨⟨by decide +kernel, by decide +kernel⟩, List.mem_of_getElem? (i := 508) (by decide +kernel), List.mem_of_getElem? (i := 588) (by decide +kernel), List.mem_of_getElem? (i := 589) (by decide +kernel)⟩
theorem lw_p53 : lw_okq (⟨"SleepingIslandsModel", "findFault", "()I"⟩, 16) := ⟨⟨by decide +kernel, by decide +kernel⟩, List.mem_of_getElem? (i := 508) (by decide +kernel), List.mem_of_getElem? (i := 596) (by decide +kernel), List.mem_of_getElem? (i := 597) (by decide +kernel)⟩
theorem lw_p54 : lw_okq (⟨"SleepingIslandsModel", "readsIsland", "(I)Z"⟩, 16) := ⟨⟨by decide +kernel, by decide +kernel⟩, List.mem_of_getElem? (i := 508) (by decide +kernel), List.mem_of_getElem? (i := 600) (by decide +kernel), List.mem_of_getElem? (i := 601) (by decide +kernel)⟩
theorem lw_p55 : lw_okq (⟨"SleepingIslandsModel", "isNext", "(I)Z"⟩, 16) := ⟨⟨by decide +kernel, by decide +kernel⟩, List.mem_of_getElem? (i := 508) (by decide +kernel), List.mem_of_getElem? (i := 604) (by decide +kernel), List.mem_of_getElem? (i := 605) (by decide +kernel)⟩
theorem lw_p56 : lw_okq (⟨"SleepingIslandsModel", "character", "(I)I"⟩, 16) := ⟨⟨by decide +kernel, by decide +kernel⟩, List.mem_of_getElem? (i := 508) (by decide +kernel), List.mem_of_getElem? (i := 608) (by decide +kernel), List.mem_of_getElem? (i := 609) (by decide +kernel)⟩
theorem lw_p57 : lw_okq (⟨"SleepingIslandsModel", "takeDigit", "(II)I"⟩, 16) := ⟨⟨by decide +kernel, by decide +kernel⟩, List.mem_of_getElem? (i := 508) (by decide +kernel), List.mem_of_getElem? (i := 612) (by decide +kernel), List.mem_of_getElem? (i := 613) (by decide +kernel)⟩
theorem lw_p58 : lw_okq (⟨"SleepingIslandsModel", "takeLoad", "()I"⟩, 16) := ⟨⟨by decide +kernel, by decide +kernel⟩, List.mem_of_getElem? (i := 508) (by decide +kernel), List.mem_of_getElem? (i := 616) (by decide +kernel), List.mem_of_getElem? (i := 617) (by decide +kernel)⟩
theorem lw_p59 : lw_okq (⟨"SleepingIslandsModel", "toldMany", "()I"⟩, 16) := ⟨⟨by decide +kernel, by decide +kernel⟩, List.mem_of_getElem? (i := 508) (by decide +kernel), List.mem_of_getElem? (i := 620) (by decide +kernel), List.mem_of_getElem? (i := 621) (by decide +kernel)⟩
theorem lw_p60 : lw_okq (⟨"SleepingIslandsModel", "isIsland", "(I)Z"⟩, 16) := ⟨⟨by decide +kernel, by decide +kernel⟩, List.mem_of_getElem? (i := 508) (by decide +kernel), List.mem_of_getElem? (i := 628) (by decide +kernel), List.mem_of_getElem? (i := 629) (by decide +kernel)⟩
theorem lw_p61 : lw_okq (⟨"SleepingIslandsModel", "reads", "(II)Z"⟩, 16) := ⟨⟨by decide +kernel, by decide +kernel⟩, List.mem_of_getElem? (i := 508) (by decide +kernel), List.mem_of_getElem? (i := 632) (by decide +kernel), List.mem_of_getElem? (i := 633) (by decide +kernel)⟩
theorem lw_p62 : lw_okq (⟨"SleepingIslandsModel", "part", "(II)I"⟩, 16) := ⟨⟨by decide +kernel, by decide +kernel⟩, List.mem_of_getElem? (i := 508) (by decide +kernel), List.mem_of_getElem? (i := 636) (by decide +kernel), List.mem_of_getElem? (i := 637) (by decide +kernel)⟩
theorem lw_p63 : lw_okq (⟨"SleepingIslandsModel", "is", "(II)Z"⟩, 16) := ⟨⟨by decide +kernel, by decide +kernel⟩, List.mem_of_getElem? (i := 508) (by decide +kernel), List.mem_of_getElem? (i := 644) (by decide +kernel), List.mem_of_getElem? (i := 645) (by decide +kernel)⟩
def lw_privs_4 : List (MethodName × Nat) := [(⟨"SleepingIslands$History", "takeBack", "(LSleepingIslands$Chip;)V"⟩, 2), (⟨"SleepingIslands", "slotOf", "(I)LSleepingIslands$Chip;"⟩, 8), (⟨"SleepingIslandsModel", "record", "()V"⟩, 16), (⟨"SleepingIslandsModel", "comes", "(IIIII)V"⟩, 16), (⟨"SleepingIslandsModel", "setPart", "(III)V"⟩, 16), (⟨"SleepingIslandsModel", "findFault", "()I"⟩, 16), (⟨"SleepingIslandsModel", "readsIsland", "(I)Z"⟩, 16), (⟨"SleepingIslandsModel", "isNext", "(I)Z"⟩, 16), (⟨"SleepingIslandsModel", "character", "(I)I"⟩, 16), (⟨"SleepingIslandsModel", "takeDigit", "(II)I"⟩, 16), (⟨"SleepingIslandsModel", "takeLoad", "()I"⟩, 16), (⟨"SleepingIslandsModel", "toldMany", "()I"⟩, 16), (⟨"SleepingIslandsModel", "isIsland", "(I)Z"⟩, 16), (⟨"SleepingIslandsModel", "reads", "(II)Z"⟩, 16), (⟨"SleepingIslandsModel", "part", "(II)I"⟩, 16), (⟨"SleepingIslandsModel", "is", "(II)Z"⟩, 16)]
theorem lw_r4 : ∀ q ∈ lw_privs_4, lw_okq q := List.forall_mem_cons.mpr ⟨lw_p48, List.forall_mem_cons.mpr ⟨lw_p49, List.forall_mem_cons.mpr ⟨lw_p50, List.forall_mem_cons.mpr ⟨lw_p51, List.forall_mem_cons.mpr ⟨lw_p52, List.forall_mem_cons.mpr ⟨lw_p53, List.forall_mem_cons.mpr ⟨lw_p54, List.forall_mem_cons.mpr ⟨lw_p55, List.forall_mem_cons.mpr ⟨lw_p56, List.forall_mem_cons.mpr ⟨lw_p57, List.forall_mem_cons.mpr ⟨lw_p58, List.forall_mem_cons.mpr ⟨lw_p59, List.forall_mem_cons.mpr ⟨lw_p60, List.forall_mem_cons.mpr ⟨lw_p61, List.forall_mem_cons.mpr ⟨lw_p62, List.forall_mem_cons.mpr ⟨lw_p63, fun _ h => absurd h List.not_mem_nil⟩⟩⟩⟩⟩⟩⟩⟩⟩⟩⟩⟩⟩⟩⟩⟩
theorem lw_p64 : lw_okq (⟨"SleepingIslandsModel", "awakeReaders", "(I)I"⟩, 16) := ⟨⟨by decide +kernel, by decide +kernel⟩, List.mem_of_getElem? (i := 508) (by decide +kernel), List.mem_of_getElem? (i := 652) (by decide +kernel), List.mem_of_getElem? (i := 653) (by decide +kernel)⟩
theorem lw_p65 : lw_okq (⟨"SleepingIslandsModel", "readersOf", "(I)I"⟩, 16) := ⟨⟨by decide +kernel, by decide +kernel⟩, List.mem_of_getElem? (i := 508) (by decide +kernel), List.mem_of_getElem? (i := 656) (by decide +kernel), List.mem_of_getElem? (i := 657) (by decide +kernel)⟩
theorem lw_p66 : lw_okq (⟨"SleepingIslandsModel", "setOf", "(I)I"⟩, 16) := ⟨⟨by decide +kernel, by decide +kernel⟩, List.mem_of_getElem? (i := 508) (by decide +kernel), List.mem_of_getElem? (i := 660) (by decide +kernel), List.mem_of_getElem? (i := 661) (by decide +kernel)⟩
theorem lw_p67 : lw_okq (⟨"SleepingIslandsModel", "waitsNow", "(I)V"⟩, 16) := ⟨⟨by decide +kernel, by decide +kernel⟩, List.mem_of_getElem? (i := 508) (by decide +kernel), List.mem_of_getElem? (i := 671) (by decide +kernel), List.mem_of_getElem? (i := 672) (by decide +kernel)⟩
theorem lw_p68 : lw_okq (⟨"SleepingIslandsModel", "passes", "(I)I"⟩, 16) := ⟨⟨by decide +kernel, by decide +kernel⟩, List.mem_of_getElem? (i := 508) (by decide +kernel), List.mem_of_getElem? (i := 679) (by decide +kernel), List.mem_of_getElem? (i := 680) (by decide +kernel)⟩
theorem lw_p69 : lw_okq (⟨"SleepingIslandsModel", "tick", "()V"⟩, 16) := ⟨⟨by decide +kernel, by decide +kernel⟩, List.mem_of_getElem? (i := 508) (by decide +kernel), List.mem_of_getElem? (i := 683) (by decide +kernel), List.mem_of_getElem? (i := 684) (by decide +kernel)⟩
theorem lw_p70 : lw_okq (⟨"SleepingIslandsModel", "newValues", "()V"⟩, 16) := ⟨⟨by decide +kernel, by decide +kernel⟩, List.mem_of_getElem? (i := 508) (by decide +kernel), List.mem_of_getElem? (i := 687) (by decide +kernel), List.mem_of_getElem? (i := 688) (by decide +kernel)⟩
theorem lw_p71 : lw_okq (⟨"SleepingIslandsModel", "tellsNow", "(I)I"⟩, 16) := ⟨⟨by decide +kernel, by decide +kernel⟩, List.mem_of_getElem? (i := 508) (by decide +kernel), List.mem_of_getElem? (i := 691) (by decide +kernel), List.mem_of_getElem? (i := 692) (by decide +kernel)⟩
theorem lw_p72 : lw_okq (⟨"SleepingIslandsModel", "isSure", "(I)Z"⟩, 16) := ⟨⟨by decide +kernel, by decide +kernel⟩, List.mem_of_getElem? (i := 508) (by decide +kernel), List.mem_of_getElem? (i := 695) (by decide +kernel), List.mem_of_getElem? (i := 696) (by decide +kernel)⟩
theorem lw_p73 : lw_okq (⟨"SleepingIslandsModel", "fallAsleep", "()V"⟩, 16) := ⟨⟨by decide +kernel, by decide +kernel⟩, List.mem_of_getElem? (i := 508) (by decide +kernel), List.mem_of_getElem? (i := 699) (by decide +kernel), List.mem_of_getElem? (i := 700) (by decide +kernel)⟩
theorem lw_p74 : lw_okq (⟨"SleepingIslandsModel", "riseOn", "()V"⟩, 16) := ⟨⟨by decide +kernel, by decide +kernel⟩, List.mem_of_getElem? (i := 508) (by decide +kernel), List.mem_of_getElem? (i := 703) (by decide +kernel), List.mem_of_getElem? (i := 704) (by decide +kernel)⟩
theorem lw_p75 : lw_okq (⟨"SleepingIslandsModel", "ask", "()V"⟩, 16) := ⟨⟨by decide +kernel, by decide +kernel⟩, List.mem_of_getElem? (i := 508) (by decide +kernel), List.mem_of_getElem? (i := 707) (by decide +kernel), List.mem_of_getElem? (i := 708) (by decide +kernel)⟩
theorem lw_p76 : lw_okq (⟨"SleepingIslandsModel", "letRise", "()V"⟩, 16) := ⟨⟨by decide +kernel, by decide +kernel⟩, List.mem_of_getElem? (i := 508) (by decide +kernel), List.mem_of_getElem? (i := 711) (by decide +kernel), List.mem_of_getElem? (i := 712) (by decide +kernel)⟩
theorem lw_p77 : lw_okq (⟨"SleepingIslandsModel", "risingLoad", "()I"⟩, 16) := ⟨⟨by decide +kernel, by decide +kernel⟩, List.mem_of_getElem? (i := 508) (by decide +kernel), List.mem_of_getElem? (i := 715) (by decide +kernel), List.mem_of_getElem? (i := 716) (by decide +kernel)⟩
theorem lw_p78 : lw_okq (⟨"SleepingIslandsModel", "placeOf", "(I)I"⟩, 16) := ⟨⟨by decide +kernel, by decide +kernel⟩, List.mem_of_getElem? (i := 508) (by decide +kernel), List.mem_of_getElem? (i := 723) (by decide +kernel), List.mem_of_getElem? (i := 724) (by decide +kernel)⟩
theorem lw_p79 : lw_okq (⟨"SleepingIslandsModel", "allValues", "()I"⟩, 16) := ⟨⟨by decide +kernel, by decide +kernel⟩, List.mem_of_getElem? (i := 508) (by decide +kernel), List.mem_of_getElem? (i := 739) (by decide +kernel), List.mem_of_getElem? (i := 740) (by decide +kernel)⟩
def lw_privs_5 : List (MethodName × Nat) := [(⟨"SleepingIslandsModel", "awakeReaders", "(I)I"⟩, 16), (⟨"SleepingIslandsModel", "readersOf", "(I)I"⟩, 16), (⟨"SleepingIslandsModel", "setOf", "(I)I"⟩, 16), (⟨"SleepingIslandsModel", "waitsNow", "(I)V"⟩, 16), (⟨"SleepingIslandsModel", "passes", "(I)I"⟩, 16), (⟨"SleepingIslandsModel", "tick", "()V"⟩, 16), (⟨"SleepingIslandsModel", "newValues", "()V"⟩, 16), (⟨"SleepingIslandsModel", "tellsNow", "(I)I"⟩, 16), (⟨"SleepingIslandsModel", "isSure", "(I)Z"⟩, 16), (⟨"SleepingIslandsModel", "fallAsleep", "()V"⟩, 16), (⟨"SleepingIslandsModel", "riseOn", "()V"⟩, 16), (⟨"SleepingIslandsModel", "ask", "()V"⟩, 16), (⟨"SleepingIslandsModel", "letRise", "()V"⟩, 16), (⟨"SleepingIslandsModel", "risingLoad", "()I"⟩, 16), (⟨"SleepingIslandsModel", "placeOf", "(I)I"⟩, 16), (⟨"SleepingIslandsModel", "allValues", "()I"⟩, 16)]
theorem lw_r5 : ∀ q ∈ lw_privs_5, lw_okq q := List.forall_mem_cons.mpr ⟨lw_p64, List.forall_mem_cons.mpr ⟨lw_p65, List.forall_mem_cons.mpr ⟨lw_p66, List.forall_mem_cons.mpr ⟨lw_p67, List.forall_mem_cons.mpr ⟨lw_p68, List.forall_mem_cons.mpr ⟨lw_p69, List.forall_mem_cons.mpr ⟨lw_p70, List.forall_mem_cons.mpr ⟨lw_p71, List.forall_mem_cons.mpr ⟨lw_p72, List.forall_mem_cons.mpr ⟨lw_p73, List.forall_mem_cons.mpr ⟨lw_p74, List.forall_mem_cons.mpr ⟨lw_p75, List.forall_mem_cons.mpr ⟨lw_p76, List.forall_mem_cons.mpr ⟨lw_p77, List.forall_mem_cons.mpr ⟨lw_p78, List.forall_mem_cons.mpr ⟨lw_p79, fun _ h => absurd h List.not_mem_nil⟩⟩⟩⟩⟩⟩⟩⟩⟩⟩⟩⟩⟩⟩⟩⟩
theorem lw_p80 : lw_okq (⟨"SleepingIslandsModel", "allAwakeWith", "(I)I"⟩, 16) := ⟨⟨by decide +kernel, by decide +kernel⟩, List.mem_of_getElem? (i := 508) (by decide +kernel), List.mem_of_getElem? (i := 747) (by decide +kernel), List.mem_of_getElem? (i := 748) (by decide +kernel)⟩
theorem lw_p81 : lw_okq (⟨"SleepingIslandsModel", "areAllAwake", "()Z"⟩, 16) := ⟨⟨by decide +kernel, by decide +kernel⟩, List.mem_of_getElem? (i := 508) (by decide +kernel), List.mem_of_getElem? (i := 751) (by decide +kernel), List.mem_of_getElem? (i := 752) (by decide +kernel)⟩
def lw_privs_6 : List (MethodName × Nat) := [(⟨"SleepingIslandsModel", "allAwakeWith", "(I)I"⟩, 16), (⟨"SleepingIslandsModel", "areAllAwake", "()Z"⟩, 16)]
theorem lw_r6 : ∀ q ∈ lw_privs_6, lw_okq q := List.forall_mem_cons.mpr ⟨lw_p80, List.forall_mem_cons.mpr ⟨lw_p81, fun _ h => absurd h List.not_mem_nil⟩⟩
def lw_privs : List (MethodName × Nat) := lw_privs_1 ++ (lw_privs_2 ++ (lw_privs_3 ++ (lw_privs_4 ++ (lw_privs_5 ++ (lw_privs_6)))))
def lw_tbl : List Cond := k2_sels lw_privs ++ tables_1
theorem lw_privs_ok : ∀ q ∈ lw_privs, lw_okq q := by
  show ∀ q ∈ lw_privs_1 ++ (lw_privs_2 ++ (lw_privs_3 ++ (lw_privs_4 ++ (lw_privs_5 ++ (lw_privs_6))))), lw_okq q
  exact List.forall_mem_append.mpr ⟨lw_r1, List.forall_mem_append.mpr ⟨lw_r2, List.forall_mem_append.mpr ⟨lw_r3, List.forall_mem_append.mpr ⟨lw_r4, List.forall_mem_append.mpr ⟨lw_r5, lw_r6⟩⟩⟩⟩⟩
end
section
def RX0 : String := "SleepingIslands$Chip"
def TX0 : u_T := fun k => match k with
  | 0 => ("SleepingIslands$Chip", "islands", "I", false)
  | 1 => ("SleepingIslands$Chip", "isolators", "I", false)
  | 2 => ("SleepingIslands$Chip", "keepers", "I", false)
  | 3 => ("SleepingIslands$Chip", "rises", "[I", true)
  | 4 => ("SleepingIslands$Chip", "loads", "[I", true)
  | 5 => ("SleepingIslands$Chip", "reads", "[I", true)
  | 6 => ("SleepingIslands$Chip", "states", "[I", true)
  | 7 => ("SleepingIslands$Chip", "values", "[I", true)
  | 8 => ("SleepingIslands$Chip", "kept", "[I", true)
  | 9 => ("SleepingIslands$Chip", "left", "[I", true)
  | 10 => ("SleepingIslands$Chip", "noise", "[I", true)
  | 11 => ("SleepingIslands$Chip", "queue", "[I", true)
  | 12 => ("SleepingIslands$Chip", "inQueue", "I", false)
  | 13 => ("SleepingIslands$Chip", "current", "I", false)
  | 14 => ("SleepingIslands$Chip", "asking", "I", false)
  | 15 => ("SleepingIslands$Chip", "ticks", "I", false)
  | 16 => ("SleepingIslands$Chip", "lostValues", "I", false)
  | 17 => ("SleepingIslands$Chip", "greatestLoad", "I", false)
  | _ => ("SleepingIslands$Chip", "told", "[I", true)
def tyX0 : Nat → FieldType := fun k => match k with
  | 0 => .int
  | 1 => .int
  | 2 => .int
  | 3 => .array .int
  | 4 => .array .int
  | 5 => .array .int
  | 6 => .array .int
  | 7 => .array .int
  | 8 => .array .int
  | 9 => .array .int
  | 10 => .array .int
  | 11 => .array .int
  | 12 => .int
  | 13 => .int
  | 14 => .int
  | 15 => .int
  | 16 => .int
  | 17 => .int
  | _ => .array .int
abbrev wsX00 : List Cond := u_ws RX0 TX0 19
theorem nmX0 : ∀ a, a < 19 → ∀ b, b < 19 → a ≠ b → (TX0 a).2.1 ≠ (TX0 b).2.1 := by decide +kernel
theorem tyX0_ok : ∀ k, k < 19 → parseFieldDescriptor (TX0 k).2.2.1 = some (tyX0 k) := by decide +kernel
abbrev cX0_init : ByteArray := prog_2_method_1_code
def yX0_init : MethodName := ⟨RX0, "<init>", "()V"⟩
abbrev cX0_clear : ByteArray := prog_2_method_2_code
def yX0_clear : MethodName := ⟨RX0, "clear", "()V"⟩
abbrev cX0_copyFrom : ByteArray := prog_2_method_3_code
def yX0_copyFrom : MethodName := ⟨RX0, "copyFrom", "(LSleepingIslands$Chip;)V"⟩
abbrev cX0_isPlace : ByteArray := prog_2_method_4_code
def yX0_isPlace : MethodName := ⟨RX0, "isPlace", "(I)Z"⟩
abbrev cX0_has : ByteArray := prog_2_method_5_code
def yX0_has : MethodName := ⟨RX0, "has", "(I)Z"⟩
abbrev cX0_addIsland : ByteArray := prog_2_method_6_code
def yX0_addIsland : MethodName := ⟨RX0, "addIsland", "(ZZIII)V"⟩
abbrev cX0_hasAllThatAreRead : ByteArray := prog_2_method_7_code
def yX0_hasAllThatAreRead : MethodName := ⟨RX0, "hasAllThatAreRead", "()Z"⟩
abbrev cX0_islandsThatAre : ByteArray := prog_2_method_8_code
def yX0_islandsThatAre : MethodName := ⟨RX0, "islandsThatAre", "(I)I"⟩
abbrev cX0_readersOf : ByteArray := prog_2_method_9_code
def yX0_readersOf : MethodName := ⟨RX0, "readersOf", "(I)I"⟩
abbrev cX0_isHeard : ByteArray := prog_2_method_10_code
def yX0_isHeard : MethodName := ⟨RX0, "isHeard", "(I)Z"⟩
abbrev cX0_whatTells : ByteArray := prog_2_method_11_code
def yX0_whatTells : MethodName := ⟨RX0, "whatTells", "(I)I"⟩
abbrev cX0_islandInQueue : ByteArray := prog_2_method_12_code
def yX0_islandInQueue : MethodName := ⟨RX0, "islandInQueue", "(I)I"⟩
abbrev cX0_placeInQueue : ByteArray := prog_2_method_13_code
def yX0_placeInQueue : MethodName := ⟨RX0, "placeInQueue", "(I)I"⟩
abbrev cX0_risingLoad : ByteArray := prog_2_method_14_code
def yX0_risingLoad : MethodName := ⟨RX0, "risingLoad", "()I"⟩
abbrev cX0_noiseSoFar : ByteArray := prog_2_method_15_code
def yX0_noiseSoFar : MethodName := ⟨RX0, "noiseSoFar", "()I"⟩
abbrev cX0_sumOfValues : ByteArray := prog_2_method_16_code
def yX0_sumOfValues : MethodName := ⟨RX0, "sumOfValues", "()I"⟩
abbrev cX0_areAllAwake : ByteArray := prog_2_method_17_code
def yX0_areAllAwake : MethodName := ⟨RX0, "areAllAwake", "()Z"⟩
abbrev cX0_isAtRest : ByteArray := prog_2_method_18_code
def yX0_isAtRest : MethodName := ⟨RX0, "isAtRest", "()Z"⟩
abbrev cX0_orderToWake : ByteArray := prog_2_method_19_code
def yX0_orderToWake : MethodName := ⟨RX0, "orderToWake", "(I)V"⟩
abbrev cX0_orderSleepersToWake : ByteArray := prog_2_method_20_code
def yX0_orderSleepersToWake : MethodName := ⟨RX0, "orderSleepersToWake", "()V"⟩
abbrev cX0_letPass : ByteArray := prog_2_method_21_code
def yX0_letPass : MethodName := ⟨RX0, "letPass", "(I)V"⟩
abbrev cX0_readOneAnother : ByteArray := prog_2_method_22_code
def yX0_readOneAnother : MethodName := ⟨RX0, "readOneAnother", "()V"⟩
abbrev cX0_sumTold : ByteArray := prog_2_method_23_code
def yX0_sumTold : MethodName := ⟨RX0, "sumTold", "(I)I"⟩
abbrev cX0_moveOn : ByteArray := prog_2_method_24_code
def yX0_moveOn : MethodName := ⟨RX0, "moveOn", "()V"⟩
abbrev cX0_endFalling : ByteArray := prog_2_method_25_code
def yX0_endFalling : MethodName := ⟨RX0, "endFalling", "()V"⟩
abbrev cX0_keepOrLose : ByteArray := prog_2_method_26_code
def yX0_keepOrLose : MethodName := ⟨RX0, "keepOrLose", "(I)V"⟩
abbrev cX0_goOnRising : ByteArray := prog_2_method_27_code
def yX0_goOnRising : MethodName := ⟨RX0, "goOnRising", "()V"⟩
abbrev cX0_endRising : ByteArray := prog_2_method_28_code
def yX0_endRising : MethodName := ⟨RX0, "endRising", "(I)V"⟩
abbrev cX0_askForSleepers : ByteArray := prog_2_method_29_code
def yX0_askForSleepers : MethodName := ⟨RX0, "askForSleepers", "()V"⟩
abbrev cX0_beginRising : ByteArray := prog_2_method_30_code
def yX0_beginRising : MethodName := ⟨RX0, "beginRising", "()V"⟩
def RX1 : String := "SleepingIslands$ChipReader"
def TX1 : u_T := fun k => match k with
  | 0 => ("SleepingIslands$ChipReader", "chip", "LSleepingIslands$Chip;", true)
  | 1 => ("SleepingIslands$ChipReader", "step", "I", false)
  | 2 => ("SleepingIslands$ChipReader", "isolator", "Z", false)
  | 3 => ("SleepingIslands$ChipReader", "keeper", "Z", false)
  | 4 => ("SleepingIslands$ChipReader", "rise", "I", false)
  | 5 => ("SleepingIslands$ChipReader", "load", "I", false)
  | _ => ("SleepingIslands$ChipReader", "reads", "I", false)
def tyX1 : Nat → FieldType := fun k => match k with
  | 0 => .object "SleepingIslands$Chip"
  | 1 => .int
  | 2 => .boolean
  | 3 => .boolean
  | 4 => .int
  | 5 => .int
  | _ => .int
abbrev wsX10 : List Cond := u_ws RX1 TX1 7
theorem nmX1 : ∀ a, a < 7 → ∀ b, b < 7 → a ≠ b → (TX1 a).2.1 ≠ (TX1 b).2.1 := by decide +kernel
theorem tyX1_ok : ∀ k, k < 7 → parseFieldDescriptor (TX1 k).2.2.1 = some (tyX1 k) := by decide +kernel
abbrev cX1_init : ByteArray := prog_3_method_1_code
def yX1_init : MethodName := ⟨RX1, "<init>", "()V"⟩
abbrev cX1_findFault : ByteArray := prog_3_method_2_code
def yX1_findFault : MethodName := ⟨RX1, "findFault", "(LSleepingIslands$Pad;)I"⟩
abbrev cX1_beginIsland : ByteArray := prog_3_method_3_code
def yX1_beginIsland : MethodName := ⟨RX1, "beginIsland", "()V"⟩
abbrev cX1_endIsland : ByteArray := prog_3_method_4_code
def yX1_endIsland : MethodName := ⟨RX1, "endIsland", "()V"⟩
abbrev cX1_takes : ByteArray := prog_3_method_5_code
def yX1_takes : MethodName := ⟨RX1, "takes", "(C)Z"⟩
abbrev cX1_takesIsolator : ByteArray := prog_3_method_6_code
def yX1_takesIsolator : MethodName := ⟨RX1, "takesIsolator", "(C)Z"⟩
abbrev cX1_takesKeeper : ByteArray := prog_3_method_7_code
def yX1_takesKeeper : MethodName := ⟨RX1, "takesKeeper", "(C)Z"⟩
abbrev cX1_takesRise : ByteArray := prog_3_method_8_code
def yX1_takesRise : MethodName := ⟨RX1, "takesRise", "(C)Z"⟩
abbrev cX1_takesComma : ByteArray := prog_3_method_9_code
def yX1_takesComma : MethodName := ⟨RX1, "takesComma", "(C)Z"⟩
abbrev cX1_takesLoad : ByteArray := prog_3_method_10_code
def yX1_takesLoad : MethodName := ⟨RX1, "takesLoad", "(C)Z"⟩
abbrev cX1_takesArrow : ByteArray := prog_3_method_11_code
def yX1_takesArrow : MethodName := ⟨RX1, "takesArrow", "(C)Z"⟩
abbrev cX1_takesNumber : ByteArray := prog_3_method_12_code
def yX1_takesNumber : MethodName := ⟨RX1, "takesNumber", "(C)Z"⟩
abbrev cX1_takesEnd : ByteArray := prog_3_method_13_code
def yX1_takesEnd : MethodName := ⟨RX1, "takesEnd", "(C)Z"⟩
def RX2 : String := "SleepingIslands$History"
def TX2 : u_T := fun k => match k with
  | 0 => ("SleepingIslands$History", "before", "[LSleepingIslands$Chip;", true)
  | _ => ("SleepingIslands$History", "many", "I", false)
def tyX2 : Nat → FieldType := fun k => match k with
  | 0 => .array (.object "SleepingIslands$Chip")
  | _ => .int
abbrev wsX20 : List Cond := u_ws RX2 TX2 2
theorem nmX2 : ∀ a, a < 2 → ∀ b, b < 2 → a ≠ b → (TX2 a).2.1 ≠ (TX2 b).2.1 := by decide +kernel
theorem tyX2_ok : ∀ k, k < 2 → parseFieldDescriptor (TX2 k).2.2.1 = some (tyX2 k) := by decide +kernel
abbrev cX2_init : ByteArray := prog_4_method_1_code
def yX2_init : MethodName := ⟨RX2, "<init>", "()V"⟩
abbrev cX2_record : ByteArray := prog_4_method_2_code
def yX2_record : MethodName := ⟨RX2, "record", "(LSleepingIslands$Chip;)V"⟩
abbrev cX2_dropOldest : ByteArray := prog_4_method_3_code
def yX2_dropOldest : MethodName := ⟨RX2, "dropOldest", "()V"⟩
abbrev cX2_takeBack : ByteArray := prog_4_method_4_code
def yX2_takeBack : MethodName := ⟨RX2, "takeBack", "(LSleepingIslands$Chip;)V"⟩
abbrev cX2_stateAt : ByteArray := prog_4_method_5_code
def yX2_stateAt : MethodName := ⟨RX2, "stateAt", "(I)LSleepingIslands$Chip;"⟩
def RX3 : String := "SleepingIslands$Pad"
def TX3 : u_T := fun k => match k with
  | 0 => ("SleepingIslands$Pad", "signs", "[C", true)
  | _ => ("SleepingIslands$Pad", "length", "I", false)
def tyX3 : Nat → FieldType := fun k => match k with
  | 0 => .array .char
  | _ => .int
abbrev wsX30 : List Cond := u_ws RX3 TX3 2
theorem nmX3 : ∀ a, a < 2 → ∀ b, b < 2 → a ≠ b → (TX3 a).2.1 ≠ (TX3 b).2.1 := by decide +kernel
theorem tyX3_ok : ∀ k, k < 2 → parseFieldDescriptor (TX3 k).2.2.1 = some (tyX3 k) := by decide +kernel
abbrev cX3_init : ByteArray := prog_5_method_1_code
def yX3_init : MethodName := ⟨RX3, "<init>", "()V"⟩
abbrev cX3_append : ByteArray := prog_5_method_2_code
def yX3_append : MethodName := ⟨RX3, "append", "(C)V"⟩
def RX4 : String := "SleepingIslands"
def TX4 : u_T := fun k => match k with
  | 0 => ("SleepingIslands", "chip", "LSleepingIslands$Chip;", true)
  | 1 => ("SleepingIslands", "trial", "LSleepingIslands$Chip;", true)
  | 2 => ("SleepingIslands", "pad", "LSleepingIslands$Pad;", true)
  | 3 => ("SleepingIslands", "reader", "LSleepingIslands$ChipReader;", true)
  | 4 => ("SleepingIslands", "history", "LSleepingIslands$History;", true)
  | 5 => ("SleepingIslands", "firstSlot", "LSleepingIslands$Chip;", true)
  | 6 => ("SleepingIslands", "secondSlot", "LSleepingIslands$Chip;", true)
  | _ => ("SleepingIslands", "savedSlots", "I", false)
def tyX4 : Nat → FieldType := fun k => match k with
  | 0 => .object "SleepingIslands$Chip"
  | 1 => .object "SleepingIslands$Chip"
  | 2 => .object "SleepingIslands$Pad"
  | 3 => .object "SleepingIslands$ChipReader"
  | 4 => .object "SleepingIslands$History"
  | 5 => .object "SleepingIslands$Chip"
  | 6 => .object "SleepingIslands$Chip"
  | _ => .int
abbrev wsX40 : List Cond := u_ws RX4 TX4 8
theorem nmX4 : ∀ a, a < 8 → ∀ b, b < 8 → a ≠ b → (TX4 a).2.1 ≠ (TX4 b).2.1 := by decide +kernel
theorem tyX4_ok : ∀ k, k < 8 → parseFieldDescriptor (TX4 k).2.2.1 = some (tyX4 k) := by decide +kernel
abbrev cX4_init : ByteArray := prog_1_method_1_code
def yX4_init : MethodName := ⟨RX4, "<init>", "()V"⟩
abbrev cX4_set : ByteArray := prog_1_method_2_code
def yX4_set : MethodName := ⟨RX4, "set", "(II)I"⟩
abbrev cX4_setCurrent : ByteArray := prog_1_method_3_code
def yX4_setCurrent : MethodName := ⟨RX4, "setCurrent", "(I)I"⟩
abbrev cX4_setAsking : ByteArray := prog_1_method_4_code
def yX4_setAsking : MethodName := ⟨RX4, "setAsking", "(I)I"⟩
abbrev cX4_build : ByteArray := prog_1_method_5_code
def yX4_build : MethodName := ⟨RX4, "build", "(ZZII)I"⟩
abbrev cX4_read : ByteArray := prog_1_method_6_code
def yX4_read : MethodName := ⟨RX4, "read", "()I"⟩
abbrev cX4_link : ByteArray := prog_1_method_7_code
def yX4_link : MethodName := ⟨RX4, "link", "(IIZ)I"⟩
abbrev cX4_value : ByteArray := prog_1_method_8_code
def yX4_value : MethodName := ⟨RX4, "value", "(II)I"⟩
abbrev cX4_sleep : ByteArray := prog_1_method_9_code
def yX4_sleep : MethodName := ⟨RX4, "sleep", "(I)I"⟩
abbrev cX4_wake : ByteArray := prog_1_method_10_code
def yX4_wake : MethodName := ⟨RX4, "wake", "(I)I"⟩
abbrev cX4_pass : ByteArray := prog_1_method_11_code
def yX4_pass : MethodName := ⟨RX4, "pass", "(I)I"⟩
abbrev cX4_of : ByteArray := prog_1_method_12_code
def yX4_of : MethodName := ⟨RX4, "of", "(II)I"⟩
abbrev cX4_count : ByteArray := prog_1_method_13_code
def yX4_count : MethodName := ⟨RX4, "count", "(I)I"⟩
abbrev cX4_waiting : ByteArray := prog_1_method_14_code
def yX4_waiting : MethodName := ⟨RX4, "waiting", "(I)I"⟩
abbrev cX4_ifPassed : ByteArray := prog_1_method_15_code
def yX4_ifPassed : MethodName := ⟨RX4, "ifPassed", "(II)I"⟩
abbrev cX4_allAwake : ByteArray := prog_1_method_16_code
def yX4_allAwake : MethodName := ⟨RX4, "allAwake", "()I"⟩
abbrev cX4_leastCurrent : ByteArray := prog_1_method_17_code
def yX4_leastCurrent : MethodName := ⟨RX4, "leastCurrent", "(I)I"⟩
abbrev cX4_ticksUntilAllAwake : ByteArray := prog_1_method_18_code
def yX4_ticksUntilAllAwake : MethodName := ⟨RX4, "ticksUntilAllAwake", "(II)I"⟩
abbrev cX4_quiet : ByteArray := prog_1_method_19_code
def yX4_quiet : MethodName := ⟨RX4, "quiet", "(I)I"⟩
abbrev cX4_sleepsQuietly : ByteArray := prog_1_method_20_code
def yX4_sleepsQuietly : MethodName := ⟨RX4, "sleepsQuietly", "(II)Z"⟩
abbrev cX4_put : ByteArray := prog_1_method_21_code
def yX4_put : MethodName := ⟨RX4, "put", "(J)I"⟩
abbrev cX4_signsIn : ByteArray := prog_1_method_22_code
def yX4_signsIn : MethodName := ⟨RX4, "signsIn", "(J)I"⟩
abbrev cX4_wipe : ByteArray := prog_1_method_23_code
def yX4_wipe : MethodName := ⟨RX4, "wipe", "()I"⟩
abbrev cX4_fault : ByteArray := prog_1_method_24_code
def yX4_fault : MethodName := ⟨RX4, "fault", "()I"⟩
abbrev cX4_undo : ByteArray := prog_1_method_25_code
def yX4_undo : MethodName := ⟨RX4, "undo", "()I"⟩
abbrev cX4_save : ByteArray := prog_1_method_26_code
def yX4_save : MethodName := ⟨RX4, "save", "(I)I"⟩
abbrev cX4_restore : ByteArray := prog_1_method_27_code
def yX4_restore : MethodName := ⟨RX4, "restore", "(I)I"⟩
abbrev cX4_slotOf : ByteArray := prog_1_method_28_code
def yX4_slotOf : MethodName := ⟨RX4, "slotOf", "(I)LSleepingIslands$Chip;"⟩
abbrev cX4_isWithin : ByteArray := prog_1_method_29_code
def yX4_isWithin : MethodName := ⟨RX4, "isWithin", "(III)Z"⟩
abbrev cX4_isIn : ByteArray := prog_1_method_30_code
def yX4_isIn : MethodName := ⟨RX4, "isIn", "(II)Z"⟩
def RX5 : String := "SleepingIslandsModel"
def TX5 : u_T := fun k => match k with
  | 0 => ("SleepingIslandsModel", "state", "[I", true)
  | 1 => ("SleepingIslandsModel", "kept", "[I", true)
  | 2 => ("SleepingIslandsModel", "history", "[I", true)
  | 3 => ("SleepingIslandsModel", "recorded", "I", false)
  | 4 => ("SleepingIslandsModel", "slots", "[I", true)
  | 5 => ("SleepingIslandsModel", "isSaved", "[I", true)
  | 6 => ("SleepingIslandsModel", "pad", "[I", true)
  | 7 => ("SleepingIslandsModel", "padLength", "I", false)
  | 8 => ("SleepingIslandsModel", "tells", "[I", true)
  | 9 => ("SleepingIslandsModel", "isNoise", "[I", true)
  | 10 => ("SleepingIslandsModel", "at", "I", false)
  | 11 => ("SleepingIslandsModel", "isolatorTold", "I", false)
  | 12 => ("SleepingIslandsModel", "keeperTold", "I", false)
  | 13 => ("SleepingIslandsModel", "riseTold", "I", false)
  | 14 => ("SleepingIslandsModel", "loadTold", "I", false)
  | _ => ("SleepingIslandsModel", "readsTold", "I", false)
def tyX5 : Nat → FieldType := fun k => match k with
  | 0 => .array .int
  | 1 => .array .int
  | 2 => .array .int
  | 3 => .int
  | 4 => .array .int
  | 5 => .array .int
  | 6 => .array .int
  | 7 => .int
  | 8 => .array .int
  | 9 => .array .int
  | 10 => .int
  | 11 => .int
  | 12 => .int
  | 13 => .int
  | 14 => .int
  | _ => .int
abbrev wsX50 : List Cond := u_ws RX5 TX5 16
theorem nmX5 : ∀ a, a < 16 → ∀ b, b < 16 → a ≠ b → (TX5 a).2.1 ≠ (TX5 b).2.1 := by decide +kernel
theorem tyX5_ok : ∀ k, k < 16 → parseFieldDescriptor (TX5 k).2.2.1 = some (tyX5 k) := by decide +kernel
abbrev cX5_init : ByteArray := prog_7_method_1_code
def yX5_init : MethodName := ⟨RX5, "<init>", "()V"⟩
abbrev cX5_moves : ByteArray := prog_7_method_3_code
def yX5_moves : MethodName := ⟨RX5, "moves", "([II[II)V"⟩
abbrev cX5_within : ByteArray := prog_7_method_4_code
def yX5_within : MethodName := ⟨RX5, "within", "(III)Z"⟩
abbrev cX5_record : ByteArray := prog_7_method_5_code
def yX5_record : MethodName := ⟨RX5, "record", "()V"⟩
abbrev cX5_isIsland : ByteArray := prog_7_method_6_code
def yX5_isIsland : MethodName := ⟨RX5, "isIsland", "(I)Z"⟩
abbrev cX5_part : ByteArray := prog_7_method_7_code
def yX5_part : MethodName := ⟨RX5, "part", "(II)I"⟩
abbrev cX5_setPart : ByteArray := prog_7_method_8_code
def yX5_setPart : MethodName := ⟨RX5, "setPart", "(III)V"⟩
abbrev cX5_is : ByteArray := prog_7_method_9_code
def yX5_is : MethodName := ⟨RX5, "is", "(II)Z"⟩
abbrev cX5_reads : ByteArray := prog_7_method_10_code
def yX5_reads : MethodName := ⟨RX5, "reads", "(II)Z"⟩
abbrev cX5_isSure : ByteArray := prog_7_method_11_code
def yX5_isSure : MethodName := ⟨RX5, "isSure", "(I)Z"⟩
abbrev cX5_tellsNow : ByteArray := prog_7_method_12_code
def yX5_tellsNow : MethodName := ⟨RX5, "tellsNow", "(I)I"⟩
abbrev cX5_setOf : ByteArray := prog_7_method_13_code
def yX5_setOf : MethodName := ⟨RX5, "setOf", "(I)I"⟩
abbrev cX5_readersOf : ByteArray := prog_7_method_14_code
def yX5_readersOf : MethodName := ⟨RX5, "readersOf", "(I)I"⟩
abbrev cX5_awakeReaders : ByteArray := prog_7_method_15_code
def yX5_awakeReaders : MethodName := ⟨RX5, "awakeReaders", "(I)I"⟩
abbrev cX5_bits : ByteArray := prog_7_method_16_code
def yX5_bits : MethodName := ⟨RX5, "bits", "(I)I"⟩
abbrev cX5_risingLoad : ByteArray := prog_7_method_17_code
def yX5_risingLoad : MethodName := ⟨RX5, "risingLoad", "()I"⟩
abbrev cX5_placeOf : ByteArray := prog_7_method_18_code
def yX5_placeOf : MethodName := ⟨RX5, "placeOf", "(I)I"⟩
abbrev cX5_waitsNow : ByteArray := prog_7_method_19_code
def yX5_waitsNow : MethodName := ⟨RX5, "waitsNow", "(I)V"⟩
abbrev cX5_newValues : ByteArray := prog_7_method_20_code
def yX5_newValues : MethodName := ⟨RX5, "newValues", "()V"⟩
abbrev cX5_fallAsleep : ByteArray := prog_7_method_21_code
def yX5_fallAsleep : MethodName := ⟨RX5, "fallAsleep", "()V"⟩
abbrev cX5_riseOn : ByteArray := prog_7_method_22_code
def yX5_riseOn : MethodName := ⟨RX5, "riseOn", "()V"⟩
abbrev cX5_ask : ByteArray := prog_7_method_23_code
def yX5_ask : MethodName := ⟨RX5, "ask", "()V"⟩
abbrev cX5_letRise : ByteArray := prog_7_method_24_code
def yX5_letRise : MethodName := ⟨RX5, "letRise", "()V"⟩
abbrev cX5_tick : ByteArray := prog_7_method_25_code
def yX5_tick : MethodName := ⟨RX5, "tick", "()V"⟩
abbrev cX5_passes : ByteArray := prog_7_method_26_code
def yX5_passes : MethodName := ⟨RX5, "passes", "(I)I"⟩
abbrev cX5_isValue : ByteArray := prog_7_method_27_code
def yX5_isValue : MethodName := ⟨RX5, "isValue", "(II)Z"⟩
abbrev cX5_set : ByteArray := prog_7_method_28_code
def yX5_set : MethodName := ⟨RX5, "set", "(II)I"⟩
abbrev cX5_comes : ByteArray := prog_7_method_29_code
def yX5_comes : MethodName := ⟨RX5, "comes", "(IIIII)V"⟩
abbrev cX5_build : ByteArray := prog_7_method_30_code
def yX5_build : MethodName := ⟨RX5, "build", "(ZZII)I"⟩
abbrev cX5_toldMany : ByteArray := prog_7_method_31_code
def yX5_toldMany : MethodName := ⟨RX5, "toldMany", "()I"⟩
abbrev cX5_read : ByteArray := prog_7_method_32_code
def yX5_read : MethodName := ⟨RX5, "read", "()I"⟩
abbrev cX5_link : ByteArray := prog_7_method_33_code
def yX5_link : MethodName := ⟨RX5, "link", "(IIZ)I"⟩
abbrev cX5_value : ByteArray := prog_7_method_34_code
def yX5_value : MethodName := ⟨RX5, "value", "(II)I"⟩
abbrev cX5_sleep : ByteArray := prog_7_method_35_code
def yX5_sleep : MethodName := ⟨RX5, "sleep", "(I)I"⟩
abbrev cX5_wake : ByteArray := prog_7_method_36_code
def yX5_wake : MethodName := ⟨RX5, "wake", "(I)I"⟩
abbrev cX5_pass : ByteArray := prog_7_method_37_code
def yX5_pass : MethodName := ⟨RX5, "pass", "(I)I"⟩
abbrev cX5_of : ByteArray := prog_7_method_38_code
def yX5_of : MethodName := ⟨RX5, "of", "(II)I"⟩
abbrev cX5_count : ByteArray := prog_7_method_39_code
def yX5_count : MethodName := ⟨RX5, "count", "(I)I"⟩
abbrev cX5_waiting : ByteArray := prog_7_method_40_code
def yX5_waiting : MethodName := ⟨RX5, "waiting", "(I)I"⟩
abbrev cX5_allValues : ByteArray := prog_7_method_41_code
def yX5_allValues : MethodName := ⟨RX5, "allValues", "()I"⟩
abbrev cX5_ifPassed : ByteArray := prog_7_method_42_code
def yX5_ifPassed : MethodName := ⟨RX5, "ifPassed", "(II)I"⟩
abbrev cX5_areAllAwake : ByteArray := prog_7_method_43_code
def yX5_areAllAwake : MethodName := ⟨RX5, "areAllAwake", "()Z"⟩
abbrev cX5_allAwakeWith : ByteArray := prog_7_method_44_code
def yX5_allAwakeWith : MethodName := ⟨RX5, "allAwakeWith", "(I)I"⟩
abbrev cX5_allAwake : ByteArray := prog_7_method_45_code
def yX5_allAwake : MethodName := ⟨RX5, "allAwake", "()I"⟩
abbrev cX5_leastCurrent : ByteArray := prog_7_method_46_code
def yX5_leastCurrent : MethodName := ⟨RX5, "leastCurrent", "(I)I"⟩
abbrev cX5_quiet : ByteArray := prog_7_method_47_code
def yX5_quiet : MethodName := ⟨RX5, "quiet", "(I)I"⟩
abbrev cX5_put : ByteArray := prog_7_method_48_code
def yX5_put : MethodName := ⟨RX5, "put", "(J)I"⟩
abbrev cX5_wipe : ByteArray := prog_7_method_49_code
def yX5_wipe : MethodName := ⟨RX5, "wipe", "()I"⟩
abbrev cX5_character : ByteArray := prog_7_method_50_code
def yX5_character : MethodName := ⟨RX5, "character", "(I)I"⟩
abbrev cX5_isNext : ByteArray := prog_7_method_51_code
def yX5_isNext : MethodName := ⟨RX5, "isNext", "(I)Z"⟩
abbrev cX5_takeDigit : ByteArray := prog_7_method_52_code
def yX5_takeDigit : MethodName := ⟨RX5, "takeDigit", "(II)I"⟩
abbrev cX5_takeLoad : ByteArray := prog_7_method_53_code
def yX5_takeLoad : MethodName := ⟨RX5, "takeLoad", "()I"⟩
abbrev cX5_readsIsland : ByteArray := prog_7_method_54_code
def yX5_readsIsland : MethodName := ⟨RX5, "readsIsland", "(I)Z"⟩
abbrev cX5_findFault : ByteArray := prog_7_method_55_code
def yX5_findFault : MethodName := ⟨RX5, "findFault", "()I"⟩
abbrev cX5_fault : ByteArray := prog_7_method_56_code
def yX5_fault : MethodName := ⟨RX5, "fault", "()I"⟩
abbrev cX5_undo : ByteArray := prog_7_method_57_code
def yX5_undo : MethodName := ⟨RX5, "undo", "()I"⟩
abbrev cX5_save : ByteArray := prog_7_method_58_code
def yX5_save : MethodName := ⟨RX5, "save", "(I)I"⟩
abbrev cX5_restore : ByteArray := prog_7_method_59_code
def yX5_restore : MethodName := ⟨RX5, "restore", "(I)I"⟩
def RJ6 : String := "java/lang/Integer"
abbrev cJ6_bitCount_0f7a4 : ByteArray := prog_8_method_49_code
def yJ6_bitCount_0f7a4 : MethodName := ⟨RJ6, "bitCount", "(I)I"⟩
def RJ9 : String := "java/lang/Math"
abbrev cJ9_max_7cf53 : ByteArray := prog_9_method_65_code
def yJ9_max_7cf53 : MethodName := ⟨RJ9, "max", "(II)I"⟩
def RL : String := "SleepingIslandsLaw"
abbrev cL_law : ByteArray := code
def yL_law : MethodName := ⟨RL, "law", "([I)Z"⟩
abbrev vwCl : List vw_C := [(RX0, TX0, 19), (RX1, TX1, 7), (RX2, TX2, 2), (RX3, TX3, 2), (RX4, TX4, 8), (RX5, TX5, 16)]
end
section
theorem dX0_init_0 : decode cX0_init 0 = .ok (.aload_n 0, 1) := by decide +kernel
theorem dX0_init_1 : decode cX0_init 1 = .ok (.invokespecial 3, 3) := by decide +kernel
theorem dX0_init_4 : decode cX0_init 4 = .ok (.aload_n 0, 1) := by decide +kernel
theorem dX0_init_5 : decode cX0_init 5 = .ok (.bipush 8, 2) := by decide +kernel
theorem dX0_init_7 : decode cX0_init 7 = .ok (.newarray .int, 2) := by decide +kernel
theorem dX0_init_9 : decode cX0_init 9 = .ok (.putfield 9, 3) := by decide +kernel
theorem dX0_init_12 : decode cX0_init 12 = .ok (.aload_n 0, 1) := by decide +kernel
theorem dX0_init_13 : decode cX0_init 13 = .ok (.bipush 8, 2) := by decide +kernel
theorem dX0_init_15 : decode cX0_init 15 = .ok (.newarray .int, 2) := by decide +kernel
theorem dX0_init_17 : decode cX0_init 17 = .ok (.putfield 15, 3) := by decide +kernel
theorem dX0_init_20 : decode cX0_init 20 = .ok (.aload_n 0, 1) := by decide +kernel
theorem dX0_init_21 : decode cX0_init 21 = .ok (.bipush 8, 2) := by decide +kernel
theorem dX0_init_23 : decode cX0_init 23 = .ok (.newarray .int, 2) := by decide +kernel
theorem dX0_init_25 : decode cX0_init 25 = .ok (.putfield 18, 3) := by decide +kernel
theorem dX0_init_28 : decode cX0_init 28 = .ok (.aload_n 0, 1) := by decide +kernel
theorem dX0_init_29 : decode cX0_init 29 = .ok (.bipush 8, 2) := by decide +kernel
theorem dX0_init_31 : decode cX0_init 31 = .ok (.newarray .int, 2) := by decide +kernel
theorem dX0_init_33 : decode cX0_init 33 = .ok (.putfield 21, 3) := by decide +kernel
theorem dX0_init_36 : decode cX0_init 36 = .ok (.aload_n 0, 1) := by decide +kernel
theorem dX0_init_37 : decode cX0_init 37 = .ok (.bipush 8, 2) := by decide +kernel
theorem dX0_init_39 : decode cX0_init 39 = .ok (.newarray .int, 2) := by decide +kernel
theorem dX0_init_41 : decode cX0_init 41 = .ok (.putfield 24, 3) := by decide +kernel
theorem dX0_init_44 : decode cX0_init 44 = .ok (.aload_n 0, 1) := by decide +kernel
theorem dX0_init_45 : decode cX0_init 45 = .ok (.bipush 8, 2) := by decide +kernel
theorem dX0_init_47 : decode cX0_init 47 = .ok (.newarray .int, 2) := by decide +kernel
theorem dX0_init_49 : decode cX0_init 49 = .ok (.putfield 27, 3) := by decide +kernel
theorem dX0_init_52 : decode cX0_init 52 = .ok (.aload_n 0, 1) := by decide +kernel
theorem dX0_init_53 : decode cX0_init 53 = .ok (.bipush 8, 2) := by decide +kernel
theorem dX0_init_55 : decode cX0_init 55 = .ok (.newarray .int, 2) := by decide +kernel
theorem dX0_init_57 : decode cX0_init 57 = .ok (.putfield 30, 3) := by decide +kernel
theorem dX0_init_60 : decode cX0_init 60 = .ok (.aload_n 0, 1) := by decide +kernel
theorem dX0_init_61 : decode cX0_init 61 = .ok (.bipush 8, 2) := by decide +kernel
theorem dX0_init_63 : decode cX0_init 63 = .ok (.newarray .int, 2) := by decide +kernel
theorem dX0_init_65 : decode cX0_init 65 = .ok (.putfield 33, 3) := by decide +kernel
theorem dX0_init_68 : decode cX0_init 68 = .ok (.aload_n 0, 1) := by decide +kernel
theorem dX0_init_69 : decode cX0_init 69 = .ok (.bipush 8, 2) := by decide +kernel
theorem dX0_init_71 : decode cX0_init 71 = .ok (.newarray .int, 2) := by decide +kernel
theorem dX0_init_73 : decode cX0_init 73 = .ok (.putfield 36, 3) := by decide +kernel
theorem dX0_init_76 : decode cX0_init 76 = .ok (.aload_n 0, 1) := by decide +kernel
theorem dX0_init_77 : decode cX0_init 77 = .ok (.bipush 8, 2) := by decide +kernel
theorem dX0_init_79 : decode cX0_init 79 = .ok (.newarray .int, 2) := by decide +kernel
theorem dX0_init_81 : decode cX0_init 81 = .ok (.putfield 39, 3) := by decide +kernel
theorem dX0_init_84 : decode cX0_init 84 = .ok (.aload_n 0, 1) := by decide +kernel
theorem dX0_init_85 : decode cX0_init 85 = .ok (.bipush 20, 2) := by decide +kernel
theorem dX0_init_87 : decode cX0_init 87 = .ok (.putfield 42, 3) := by decide +kernel
theorem dX0_init_90 : decode cX0_init 90 = .ok (.aload_n 0, 1) := by decide +kernel
theorem dX0_init_91 : decode cX0_init 91 = .ok (.iconst 0, 1) := by decide +kernel
theorem dX0_init_92 : decode cX0_init 92 = .ok (.putfield 46, 3) := by decide +kernel
theorem dX0_init_95 : decode cX0_init 95 = .ok (.aload_n 0, 1) := by decide +kernel
theorem dX0_init_96 : decode cX0_init 96 = .ok (.invokevirtual 49, 3) := by decide +kernel
theorem dX0_init_99 : decode cX0_init 99 = .ok (.return_, 1) := by decide +kernel
theorem dX0_clear_0 : decode cX0_clear 0 = .ok (.aload_n 0, 1) := by decide +kernel
theorem dX0_clear_1 : decode cX0_clear 1 = .ok (.iconst 0, 1) := by decide +kernel
theorem dX0_clear_2 : decode cX0_clear 2 = .ok (.putfield 52, 3) := by decide +kernel
theorem dX0_clear_5 : decode cX0_clear 5 = .ok (.aload_n 0, 1) := by decide +kernel
theorem dX0_clear_6 : decode cX0_clear 6 = .ok (.iconst 0, 1) := by decide +kernel
theorem dX0_clear_7 : decode cX0_clear 7 = .ok (.putfield 55, 3) := by decide +kernel
theorem dX0_clear_10 : decode cX0_clear 10 = .ok (.aload_n 0, 1) := by decide +kernel
theorem dX0_clear_11 : decode cX0_clear 11 = .ok (.iconst 0, 1) := by decide +kernel
theorem dX0_clear_12 : decode cX0_clear 12 = .ok (.putfield 58, 3) := by decide +kernel
theorem dX0_clear_15 : decode cX0_clear 15 = .ok (.aload_n 0, 1) := by decide +kernel
theorem dX0_clear_16 : decode cX0_clear 16 = .ok (.iconst 0, 1) := by decide +kernel
theorem dX0_clear_17 : decode cX0_clear 17 = .ok (.putfield 61, 3) := by decide +kernel
theorem dX0_clear_20 : decode cX0_clear 20 = .ok (.aload_n 0, 1) := by decide +kernel
theorem dX0_clear_21 : decode cX0_clear 21 = .ok (.iconst 0, 1) := by decide +kernel
theorem dX0_clear_22 : decode cX0_clear 22 = .ok (.putfield 64, 3) := by decide +kernel
theorem dX0_clear_25 : decode cX0_clear 25 = .ok (.aload_n 0, 1) := by decide +kernel
theorem dX0_clear_26 : decode cX0_clear 26 = .ok (.iconst 0, 1) := by decide +kernel
theorem dX0_clear_27 : decode cX0_clear 27 = .ok (.putfield 67, 3) := by decide +kernel
theorem dX0_clear_30 : decode cX0_clear 30 = .ok (.aload_n 0, 1) := by decide +kernel
theorem dX0_clear_31 : decode cX0_clear 31 = .ok (.iconst 0, 1) := by decide +kernel
theorem dX0_clear_32 : decode cX0_clear 32 = .ok (.putfield 70, 3) := by decide +kernel
theorem dX0_clear_35 : decode cX0_clear 35 = .ok (.iconst 0, 1) := by decide +kernel
theorem dX0_clear_36 : decode cX0_clear 36 = .ok (.istore_n 1, 1) := by decide +kernel
theorem dX0_clear_37 : decode cX0_clear 37 = .ok (.iload_n 1, 1) := by decide +kernel
theorem dX0_clear_38 : decode cX0_clear 38 = .ok (.bipush 8, 2) := by decide +kernel
theorem dX0_clear_40 : decode cX0_clear 40 = .ok (.if_icmp .ge 72, 3) := by decide +kernel
theorem dX0_clear_43 : decode cX0_clear 43 = .ok (.aload_n 0, 1) := by decide +kernel
theorem dX0_clear_44 : decode cX0_clear 44 = .ok (.getfield 9, 3) := by decide +kernel
theorem dX0_clear_47 : decode cX0_clear 47 = .ok (.iload_n 1, 1) := by decide +kernel
theorem dX0_clear_48 : decode cX0_clear 48 = .ok (.iconst 0, 1) := by decide +kernel
theorem dX0_clear_49 : decode cX0_clear 49 = .ok (.iastore, 1) := by decide +kernel
theorem dX0_clear_50 : decode cX0_clear 50 = .ok (.aload_n 0, 1) := by decide +kernel
theorem dX0_clear_51 : decode cX0_clear 51 = .ok (.getfield 15, 3) := by decide +kernel
theorem dX0_clear_54 : decode cX0_clear 54 = .ok (.iload_n 1, 1) := by decide +kernel
theorem dX0_clear_55 : decode cX0_clear 55 = .ok (.iconst 0, 1) := by decide +kernel
theorem dX0_clear_56 : decode cX0_clear 56 = .ok (.iastore, 1) := by decide +kernel
theorem dX0_clear_57 : decode cX0_clear 57 = .ok (.aload_n 0, 1) := by decide +kernel
theorem dX0_clear_58 : decode cX0_clear 58 = .ok (.getfield 18, 3) := by decide +kernel
theorem dX0_clear_61 : decode cX0_clear 61 = .ok (.iload_n 1, 1) := by decide +kernel
theorem dX0_clear_62 : decode cX0_clear 62 = .ok (.iconst 0, 1) := by decide +kernel
theorem dX0_clear_63 : decode cX0_clear 63 = .ok (.iastore, 1) := by decide +kernel
theorem dX0_clear_64 : decode cX0_clear 64 = .ok (.aload_n 0, 1) := by decide +kernel
theorem dX0_clear_65 : decode cX0_clear 65 = .ok (.getfield 21, 3) := by decide +kernel
theorem dX0_clear_68 : decode cX0_clear 68 = .ok (.iload_n 1, 1) := by decide +kernel
theorem dX0_clear_69 : decode cX0_clear 69 = .ok (.iconst (-1), 1) := by decide +kernel
theorem dX0_clear_70 : decode cX0_clear 70 = .ok (.iastore, 1) := by decide +kernel
theorem dX0_clear_71 : decode cX0_clear 71 = .ok (.aload_n 0, 1) := by decide +kernel
theorem dX0_clear_72 : decode cX0_clear 72 = .ok (.getfield 24, 3) := by decide +kernel
theorem dX0_clear_75 : decode cX0_clear 75 = .ok (.iload_n 1, 1) := by decide +kernel
theorem dX0_clear_76 : decode cX0_clear 76 = .ok (.iconst 0, 1) := by decide +kernel
theorem dX0_clear_77 : decode cX0_clear 77 = .ok (.iastore, 1) := by decide +kernel
theorem dX0_clear_78 : decode cX0_clear 78 = .ok (.aload_n 0, 1) := by decide +kernel
theorem dX0_clear_79 : decode cX0_clear 79 = .ok (.getfield 27, 3) := by decide +kernel
theorem dX0_clear_82 : decode cX0_clear 82 = .ok (.iload_n 1, 1) := by decide +kernel
theorem dX0_clear_83 : decode cX0_clear 83 = .ok (.iconst 0, 1) := by decide +kernel
theorem dX0_clear_84 : decode cX0_clear 84 = .ok (.iastore, 1) := by decide +kernel
theorem dX0_clear_85 : decode cX0_clear 85 = .ok (.aload_n 0, 1) := by decide +kernel
theorem dX0_clear_86 : decode cX0_clear 86 = .ok (.getfield 30, 3) := by decide +kernel
theorem dX0_clear_89 : decode cX0_clear 89 = .ok (.iload_n 1, 1) := by decide +kernel
theorem dX0_clear_90 : decode cX0_clear 90 = .ok (.iconst 0, 1) := by decide +kernel
theorem dX0_clear_91 : decode cX0_clear 91 = .ok (.iastore, 1) := by decide +kernel
theorem dX0_clear_92 : decode cX0_clear 92 = .ok (.aload_n 0, 1) := by decide +kernel
theorem dX0_clear_93 : decode cX0_clear 93 = .ok (.getfield 33, 3) := by decide +kernel
theorem dX0_clear_96 : decode cX0_clear 96 = .ok (.iload_n 1, 1) := by decide +kernel
theorem dX0_clear_97 : decode cX0_clear 97 = .ok (.iconst 0, 1) := by decide +kernel
theorem dX0_clear_98 : decode cX0_clear 98 = .ok (.iastore, 1) := by decide +kernel
theorem dX0_clear_99 : decode cX0_clear 99 = .ok (.aload_n 0, 1) := by decide +kernel
theorem dX0_clear_100 : decode cX0_clear 100 = .ok (.getfield 36, 3) := by decide +kernel
theorem dX0_clear_103 : decode cX0_clear 103 = .ok (.iload_n 1, 1) := by decide +kernel
theorem dX0_clear_104 : decode cX0_clear 104 = .ok (.iconst 0, 1) := by decide +kernel
theorem dX0_clear_105 : decode cX0_clear 105 = .ok (.iastore, 1) := by decide +kernel
theorem dX0_clear_106 : decode cX0_clear 106 = .ok (.iinc 1 1, 3) := by decide +kernel
theorem dX0_clear_109 : decode cX0_clear 109 = .ok (.goto (-72), 3) := by decide +kernel
theorem dX0_clear_112 : decode cX0_clear 112 = .ok (.return_, 1) := by decide +kernel
theorem dX0_copyFrom_0 : decode cX0_copyFrom 0 = .ok (.aload_n 0, 1) := by decide +kernel
theorem dX0_copyFrom_1 : decode cX0_copyFrom 1 = .ok (.aload_n 1, 1) := by decide +kernel
theorem dX0_copyFrom_2 : decode cX0_copyFrom 2 = .ok (.getfield 52, 3) := by decide +kernel
theorem dX0_copyFrom_5 : decode cX0_copyFrom 5 = .ok (.putfield 52, 3) := by decide +kernel
theorem dX0_copyFrom_8 : decode cX0_copyFrom 8 = .ok (.aload_n 0, 1) := by decide +kernel
theorem dX0_copyFrom_9 : decode cX0_copyFrom 9 = .ok (.aload_n 1, 1) := by decide +kernel
theorem dX0_copyFrom_10 : decode cX0_copyFrom 10 = .ok (.getfield 55, 3) := by decide +kernel
theorem dX0_copyFrom_13 : decode cX0_copyFrom 13 = .ok (.putfield 55, 3) := by decide +kernel
theorem dX0_copyFrom_16 : decode cX0_copyFrom 16 = .ok (.aload_n 0, 1) := by decide +kernel
theorem dX0_copyFrom_17 : decode cX0_copyFrom 17 = .ok (.aload_n 1, 1) := by decide +kernel
theorem dX0_copyFrom_18 : decode cX0_copyFrom 18 = .ok (.getfield 58, 3) := by decide +kernel
theorem dX0_copyFrom_21 : decode cX0_copyFrom 21 = .ok (.putfield 58, 3) := by decide +kernel
theorem dX0_copyFrom_24 : decode cX0_copyFrom 24 = .ok (.aload_n 0, 1) := by decide +kernel
theorem dX0_copyFrom_25 : decode cX0_copyFrom 25 = .ok (.aload_n 1, 1) := by decide +kernel
theorem dX0_copyFrom_26 : decode cX0_copyFrom 26 = .ok (.getfield 61, 3) := by decide +kernel
theorem dX0_copyFrom_29 : decode cX0_copyFrom 29 = .ok (.putfield 61, 3) := by decide +kernel
theorem dX0_copyFrom_32 : decode cX0_copyFrom 32 = .ok (.aload_n 0, 1) := by decide +kernel
theorem dX0_copyFrom_33 : decode cX0_copyFrom 33 = .ok (.aload_n 1, 1) := by decide +kernel
theorem dX0_copyFrom_34 : decode cX0_copyFrom 34 = .ok (.getfield 42, 3) := by decide +kernel
theorem dX0_copyFrom_37 : decode cX0_copyFrom 37 = .ok (.putfield 42, 3) := by decide +kernel
theorem dX0_copyFrom_40 : decode cX0_copyFrom 40 = .ok (.aload_n 0, 1) := by decide +kernel
theorem dX0_copyFrom_41 : decode cX0_copyFrom 41 = .ok (.aload_n 1, 1) := by decide +kernel
theorem dX0_copyFrom_42 : decode cX0_copyFrom 42 = .ok (.getfield 46, 3) := by decide +kernel
theorem dX0_copyFrom_45 : decode cX0_copyFrom 45 = .ok (.putfield 46, 3) := by decide +kernel
theorem dX0_copyFrom_48 : decode cX0_copyFrom 48 = .ok (.aload_n 0, 1) := by decide +kernel
theorem dX0_copyFrom_49 : decode cX0_copyFrom 49 = .ok (.aload_n 1, 1) := by decide +kernel
theorem dX0_copyFrom_50 : decode cX0_copyFrom 50 = .ok (.getfield 64, 3) := by decide +kernel
theorem dX0_copyFrom_53 : decode cX0_copyFrom 53 = .ok (.putfield 64, 3) := by decide +kernel
theorem dX0_copyFrom_56 : decode cX0_copyFrom 56 = .ok (.aload_n 0, 1) := by decide +kernel
theorem dX0_copyFrom_57 : decode cX0_copyFrom 57 = .ok (.aload_n 1, 1) := by decide +kernel
theorem dX0_copyFrom_58 : decode cX0_copyFrom 58 = .ok (.getfield 67, 3) := by decide +kernel
theorem dX0_copyFrom_61 : decode cX0_copyFrom 61 = .ok (.putfield 67, 3) := by decide +kernel
theorem dX0_copyFrom_64 : decode cX0_copyFrom 64 = .ok (.aload_n 0, 1) := by decide +kernel
theorem dX0_copyFrom_65 : decode cX0_copyFrom 65 = .ok (.aload_n 1, 1) := by decide +kernel
theorem dX0_copyFrom_66 : decode cX0_copyFrom 66 = .ok (.getfield 70, 3) := by decide +kernel
theorem dX0_copyFrom_69 : decode cX0_copyFrom 69 = .ok (.putfield 70, 3) := by decide +kernel
theorem dX0_copyFrom_72 : decode cX0_copyFrom 72 = .ok (.iconst 0, 1) := by decide +kernel
theorem dX0_copyFrom_73 : decode cX0_copyFrom 73 = .ok (.istore_n 2, 1) := by decide +kernel
theorem dX0_copyFrom_74 : decode cX0_copyFrom 74 = .ok (.iload_n 2, 1) := by decide +kernel
theorem dX0_copyFrom_75 : decode cX0_copyFrom 75 = .ok (.bipush 8, 2) := by decide +kernel
theorem dX0_copyFrom_77 : decode cX0_copyFrom 77 = .ok (.if_icmp .ge 117, 3) := by decide +kernel
theorem dX0_copyFrom_80 : decode cX0_copyFrom 80 = .ok (.aload_n 0, 1) := by decide +kernel
theorem dX0_copyFrom_81 : decode cX0_copyFrom 81 = .ok (.getfield 9, 3) := by decide +kernel
theorem dX0_copyFrom_84 : decode cX0_copyFrom 84 = .ok (.iload_n 2, 1) := by decide +kernel
theorem dX0_copyFrom_85 : decode cX0_copyFrom 85 = .ok (.aload_n 1, 1) := by decide +kernel
theorem dX0_copyFrom_86 : decode cX0_copyFrom 86 = .ok (.getfield 9, 3) := by decide +kernel
theorem dX0_copyFrom_89 : decode cX0_copyFrom 89 = .ok (.iload_n 2, 1) := by decide +kernel
theorem dX0_copyFrom_90 : decode cX0_copyFrom 90 = .ok (.iaload, 1) := by decide +kernel
theorem dX0_copyFrom_91 : decode cX0_copyFrom 91 = .ok (.iastore, 1) := by decide +kernel
theorem dX0_copyFrom_92 : decode cX0_copyFrom 92 = .ok (.aload_n 0, 1) := by decide +kernel
theorem dX0_copyFrom_93 : decode cX0_copyFrom 93 = .ok (.getfield 15, 3) := by decide +kernel
theorem dX0_copyFrom_96 : decode cX0_copyFrom 96 = .ok (.iload_n 2, 1) := by decide +kernel
theorem dX0_copyFrom_97 : decode cX0_copyFrom 97 = .ok (.aload_n 1, 1) := by decide +kernel
theorem dX0_copyFrom_98 : decode cX0_copyFrom 98 = .ok (.getfield 15, 3) := by decide +kernel
theorem dX0_copyFrom_101 : decode cX0_copyFrom 101 = .ok (.iload_n 2, 1) := by decide +kernel
theorem dX0_copyFrom_102 : decode cX0_copyFrom 102 = .ok (.iaload, 1) := by decide +kernel
theorem dX0_copyFrom_103 : decode cX0_copyFrom 103 = .ok (.iastore, 1) := by decide +kernel
theorem dX0_copyFrom_104 : decode cX0_copyFrom 104 = .ok (.aload_n 0, 1) := by decide +kernel
theorem dX0_copyFrom_105 : decode cX0_copyFrom 105 = .ok (.getfield 18, 3) := by decide +kernel
theorem dX0_copyFrom_108 : decode cX0_copyFrom 108 = .ok (.iload_n 2, 1) := by decide +kernel
theorem dX0_copyFrom_109 : decode cX0_copyFrom 109 = .ok (.aload_n 1, 1) := by decide +kernel
theorem dX0_copyFrom_110 : decode cX0_copyFrom 110 = .ok (.getfield 18, 3) := by decide +kernel
theorem dX0_copyFrom_113 : decode cX0_copyFrom 113 = .ok (.iload_n 2, 1) := by decide +kernel
theorem dX0_copyFrom_114 : decode cX0_copyFrom 114 = .ok (.iaload, 1) := by decide +kernel
theorem dX0_copyFrom_115 : decode cX0_copyFrom 115 = .ok (.iastore, 1) := by decide +kernel
theorem dX0_copyFrom_116 : decode cX0_copyFrom 116 = .ok (.aload_n 0, 1) := by decide +kernel
theorem dX0_copyFrom_117 : decode cX0_copyFrom 117 = .ok (.getfield 21, 3) := by decide +kernel
theorem dX0_copyFrom_120 : decode cX0_copyFrom 120 = .ok (.iload_n 2, 1) := by decide +kernel
theorem dX0_copyFrom_121 : decode cX0_copyFrom 121 = .ok (.aload_n 1, 1) := by decide +kernel
theorem dX0_copyFrom_122 : decode cX0_copyFrom 122 = .ok (.getfield 21, 3) := by decide +kernel
theorem dX0_copyFrom_125 : decode cX0_copyFrom 125 = .ok (.iload_n 2, 1) := by decide +kernel
theorem dX0_copyFrom_126 : decode cX0_copyFrom 126 = .ok (.iaload, 1) := by decide +kernel
theorem dX0_copyFrom_127 : decode cX0_copyFrom 127 = .ok (.iastore, 1) := by decide +kernel
theorem dX0_copyFrom_128 : decode cX0_copyFrom 128 = .ok (.aload_n 0, 1) := by decide +kernel
theorem dX0_copyFrom_129 : decode cX0_copyFrom 129 = .ok (.getfield 24, 3) := by decide +kernel
theorem dX0_copyFrom_132 : decode cX0_copyFrom 132 = .ok (.iload_n 2, 1) := by decide +kernel
theorem dX0_copyFrom_133 : decode cX0_copyFrom 133 = .ok (.aload_n 1, 1) := by decide +kernel
theorem dX0_copyFrom_134 : decode cX0_copyFrom 134 = .ok (.getfield 24, 3) := by decide +kernel
theorem dX0_copyFrom_137 : decode cX0_copyFrom 137 = .ok (.iload_n 2, 1) := by decide +kernel
theorem dX0_copyFrom_138 : decode cX0_copyFrom 138 = .ok (.iaload, 1) := by decide +kernel
theorem dX0_copyFrom_139 : decode cX0_copyFrom 139 = .ok (.iastore, 1) := by decide +kernel
theorem dX0_copyFrom_140 : decode cX0_copyFrom 140 = .ok (.aload_n 0, 1) := by decide +kernel
theorem dX0_copyFrom_141 : decode cX0_copyFrom 141 = .ok (.getfield 27, 3) := by decide +kernel
theorem dX0_copyFrom_144 : decode cX0_copyFrom 144 = .ok (.iload_n 2, 1) := by decide +kernel
theorem dX0_copyFrom_145 : decode cX0_copyFrom 145 = .ok (.aload_n 1, 1) := by decide +kernel
theorem dX0_copyFrom_146 : decode cX0_copyFrom 146 = .ok (.getfield 27, 3) := by decide +kernel
theorem dX0_copyFrom_149 : decode cX0_copyFrom 149 = .ok (.iload_n 2, 1) := by decide +kernel
theorem dX0_copyFrom_150 : decode cX0_copyFrom 150 = .ok (.iaload, 1) := by decide +kernel
theorem dX0_copyFrom_151 : decode cX0_copyFrom 151 = .ok (.iastore, 1) := by decide +kernel
theorem dX0_copyFrom_152 : decode cX0_copyFrom 152 = .ok (.aload_n 0, 1) := by decide +kernel
theorem dX0_copyFrom_153 : decode cX0_copyFrom 153 = .ok (.getfield 30, 3) := by decide +kernel
theorem dX0_copyFrom_156 : decode cX0_copyFrom 156 = .ok (.iload_n 2, 1) := by decide +kernel
theorem dX0_copyFrom_157 : decode cX0_copyFrom 157 = .ok (.aload_n 1, 1) := by decide +kernel
theorem dX0_copyFrom_158 : decode cX0_copyFrom 158 = .ok (.getfield 30, 3) := by decide +kernel
theorem dX0_copyFrom_161 : decode cX0_copyFrom 161 = .ok (.iload_n 2, 1) := by decide +kernel
theorem dX0_copyFrom_162 : decode cX0_copyFrom 162 = .ok (.iaload, 1) := by decide +kernel
theorem dX0_copyFrom_163 : decode cX0_copyFrom 163 = .ok (.iastore, 1) := by decide +kernel
theorem dX0_copyFrom_164 : decode cX0_copyFrom 164 = .ok (.aload_n 0, 1) := by decide +kernel
theorem dX0_copyFrom_165 : decode cX0_copyFrom 165 = .ok (.getfield 33, 3) := by decide +kernel
theorem dX0_copyFrom_168 : decode cX0_copyFrom 168 = .ok (.iload_n 2, 1) := by decide +kernel
theorem dX0_copyFrom_169 : decode cX0_copyFrom 169 = .ok (.aload_n 1, 1) := by decide +kernel
theorem dX0_copyFrom_170 : decode cX0_copyFrom 170 = .ok (.getfield 33, 3) := by decide +kernel
theorem dX0_copyFrom_173 : decode cX0_copyFrom 173 = .ok (.iload_n 2, 1) := by decide +kernel
theorem dX0_copyFrom_174 : decode cX0_copyFrom 174 = .ok (.iaload, 1) := by decide +kernel
theorem dX0_copyFrom_175 : decode cX0_copyFrom 175 = .ok (.iastore, 1) := by decide +kernel
theorem dX0_copyFrom_176 : decode cX0_copyFrom 176 = .ok (.aload_n 0, 1) := by decide +kernel
theorem dX0_copyFrom_177 : decode cX0_copyFrom 177 = .ok (.getfield 36, 3) := by decide +kernel
theorem dX0_copyFrom_180 : decode cX0_copyFrom 180 = .ok (.iload_n 2, 1) := by decide +kernel
theorem dX0_copyFrom_181 : decode cX0_copyFrom 181 = .ok (.aload_n 1, 1) := by decide +kernel
theorem dX0_copyFrom_182 : decode cX0_copyFrom 182 = .ok (.getfield 36, 3) := by decide +kernel
theorem dX0_copyFrom_185 : decode cX0_copyFrom 185 = .ok (.iload_n 2, 1) := by decide +kernel
theorem dX0_copyFrom_186 : decode cX0_copyFrom 186 = .ok (.iaload, 1) := by decide +kernel
theorem dX0_copyFrom_187 : decode cX0_copyFrom 187 = .ok (.iastore, 1) := by decide +kernel
theorem dX0_copyFrom_188 : decode cX0_copyFrom 188 = .ok (.iinc 2 1, 3) := by decide +kernel
theorem dX0_copyFrom_191 : decode cX0_copyFrom 191 = .ok (.goto (-117), 3) := by decide +kernel
theorem dX0_copyFrom_194 : decode cX0_copyFrom 194 = .ok (.return_, 1) := by decide +kernel
theorem dX0_isPlace_0 : decode cX0_isPlace 0 = .ok (.iload_n 0, 1) := by decide +kernel
theorem dX0_isPlace_1 : decode cX0_isPlace 1 = .ok (.ifCond .lt 13, 3) := by decide +kernel
theorem dX0_isPlace_4 : decode cX0_isPlace 4 = .ok (.iload_n 0, 1) := by decide +kernel
theorem dX0_isPlace_5 : decode cX0_isPlace 5 = .ok (.bipush 8, 2) := by decide +kernel
theorem dX0_isPlace_7 : decode cX0_isPlace 7 = .ok (.if_icmp .ge 7, 3) := by decide +kernel
theorem dX0_isPlace_10 : decode cX0_isPlace 10 = .ok (.iconst 1, 1) := by decide +kernel
theorem dX0_isPlace_11 : decode cX0_isPlace 11 = .ok (.goto 4, 3) := by decide +kernel
theorem dX0_isPlace_14 : decode cX0_isPlace 14 = .ok (.iconst 0, 1) := by decide +kernel
theorem dX0_isPlace_15 : decode cX0_isPlace 15 = .ok (.ireturn, 1) := by decide +kernel
theorem dX0_has_0 : decode cX0_has 0 = .ok (.iload_n 1, 1) := by decide +kernel
theorem dX0_has_1 : decode cX0_has 1 = .ok (.invokestatic 73, 3) := by decide +kernel
theorem dX0_has_4 : decode cX0_has 4 = .ok (.ifCond .eq 15, 3) := by decide +kernel
theorem dX0_has_7 : decode cX0_has 7 = .ok (.iload_n 1, 1) := by decide +kernel
theorem dX0_has_8 : decode cX0_has 8 = .ok (.aload_n 0, 1) := by decide +kernel
theorem dX0_has_9 : decode cX0_has 9 = .ok (.getfield 52, 3) := by decide +kernel
theorem dX0_has_12 : decode cX0_has 12 = .ok (.if_icmp .ge 7, 3) := by decide +kernel
theorem dX0_has_15 : decode cX0_has 15 = .ok (.iconst 1, 1) := by decide +kernel
theorem dX0_has_16 : decode cX0_has 16 = .ok (.goto 4, 3) := by decide +kernel
theorem dX0_has_19 : decode cX0_has 19 = .ok (.iconst 0, 1) := by decide +kernel
theorem dX0_has_20 : decode cX0_has 20 = .ok (.ireturn, 1) := by decide +kernel
theorem dX0_addIsland_0 : decode cX0_addIsland 0 = .ok (.aload_n 0, 1) := by decide +kernel
theorem dX0_addIsland_1 : decode cX0_addIsland 1 = .ok (.getfield 52, 3) := by decide +kernel
theorem dX0_addIsland_4 : decode cX0_addIsland 4 = .ok (.istore 6, 2) := by decide +kernel
theorem dX0_addIsland_6 : decode cX0_addIsland 6 = .ok (.iload 6, 2) := by decide +kernel
theorem dX0_addIsland_8 : decode cX0_addIsland 8 = .ok (.invokestatic 73, 3) := by decide +kernel
theorem dX0_addIsland_11 : decode cX0_addIsland 11 = .ok (.ifCond .ne 4, 3) := by decide +kernel
theorem dX0_addIsland_14 : decode cX0_addIsland 14 = .ok (.return_, 1) := by decide +kernel
theorem dX0_addIsland_15 : decode cX0_addIsland 15 = .ok (.aload_n 0, 1) := by decide +kernel
theorem dX0_addIsland_16 : decode cX0_addIsland 16 = .ok (.dup, 1) := by decide +kernel
theorem dX0_addIsland_17 : decode cX0_addIsland 17 = .ok (.getfield 52, 3) := by decide +kernel
theorem dX0_addIsland_20 : decode cX0_addIsland 20 = .ok (.iconst 1, 1) := by decide +kernel
theorem dX0_addIsland_21 : decode cX0_addIsland 21 = .ok (.iadd, 1) := by decide +kernel
theorem dX0_addIsland_22 : decode cX0_addIsland 22 = .ok (.putfield 52, 3) := by decide +kernel
theorem dX0_addIsland_25 : decode cX0_addIsland 25 = .ok (.iload_n 1, 1) := by decide +kernel
theorem dX0_addIsland_26 : decode cX0_addIsland 26 = .ok (.ifCond .eq 16, 3) := by decide +kernel
theorem dX0_addIsland_29 : decode cX0_addIsland 29 = .ok (.aload_n 0, 1) := by decide +kernel
theorem dX0_addIsland_30 : decode cX0_addIsland 30 = .ok (.dup, 1) := by decide +kernel
theorem dX0_addIsland_31 : decode cX0_addIsland 31 = .ok (.getfield 55, 3) := by decide +kernel
theorem dX0_addIsland_34 : decode cX0_addIsland 34 = .ok (.iconst 1, 1) := by decide +kernel
theorem dX0_addIsland_35 : decode cX0_addIsland 35 = .ok (.iload 6, 2) := by decide +kernel
theorem dX0_addIsland_37 : decode cX0_addIsland 37 = .ok (.ishl, 1) := by decide +kernel
theorem dX0_addIsland_38 : decode cX0_addIsland 38 = .ok (.ior, 1) := by decide +kernel
theorem dX0_addIsland_39 : decode cX0_addIsland 39 = .ok (.putfield 55, 3) := by decide +kernel
theorem dX0_addIsland_42 : decode cX0_addIsland 42 = .ok (.iload_n 2, 1) := by decide +kernel
theorem dX0_addIsland_43 : decode cX0_addIsland 43 = .ok (.ifCond .eq 16, 3) := by decide +kernel
theorem dX0_addIsland_46 : decode cX0_addIsland 46 = .ok (.aload_n 0, 1) := by decide +kernel
theorem dX0_addIsland_47 : decode cX0_addIsland 47 = .ok (.dup, 1) := by decide +kernel
theorem dX0_addIsland_48 : decode cX0_addIsland 48 = .ok (.getfield 58, 3) := by decide +kernel
theorem dX0_addIsland_51 : decode cX0_addIsland 51 = .ok (.iconst 1, 1) := by decide +kernel
theorem dX0_addIsland_52 : decode cX0_addIsland 52 = .ok (.iload 6, 2) := by decide +kernel
theorem dX0_addIsland_54 : decode cX0_addIsland 54 = .ok (.ishl, 1) := by decide +kernel
theorem dX0_addIsland_55 : decode cX0_addIsland 55 = .ok (.ior, 1) := by decide +kernel
theorem dX0_addIsland_56 : decode cX0_addIsland 56 = .ok (.putfield 58, 3) := by decide +kernel
theorem dX0_addIsland_59 : decode cX0_addIsland 59 = .ok (.aload_n 0, 1) := by decide +kernel
theorem dX0_addIsland_60 : decode cX0_addIsland 60 = .ok (.getfield 9, 3) := by decide +kernel
theorem dX0_addIsland_63 : decode cX0_addIsland 63 = .ok (.iload 6, 2) := by decide +kernel
theorem dX0_addIsland_65 : decode cX0_addIsland 65 = .ok (.iload_n 3, 1) := by decide +kernel
theorem dX0_addIsland_66 : decode cX0_addIsland 66 = .ok (.iastore, 1) := by decide +kernel
theorem dX0_addIsland_67 : decode cX0_addIsland 67 = .ok (.aload_n 0, 1) := by decide +kernel
theorem dX0_addIsland_68 : decode cX0_addIsland 68 = .ok (.getfield 15, 3) := by decide +kernel
theorem dX0_addIsland_71 : decode cX0_addIsland 71 = .ok (.iload 6, 2) := by decide +kernel
theorem dX0_addIsland_73 : decode cX0_addIsland 73 = .ok (.iload 4, 2) := by decide +kernel
theorem dX0_addIsland_75 : decode cX0_addIsland 75 = .ok (.iastore, 1) := by decide +kernel
theorem dX0_addIsland_76 : decode cX0_addIsland 76 = .ok (.aload_n 0, 1) := by decide +kernel
theorem dX0_addIsland_77 : decode cX0_addIsland 77 = .ok (.getfield 18, 3) := by decide +kernel
theorem dX0_addIsland_80 : decode cX0_addIsland 80 = .ok (.iload 6, 2) := by decide +kernel
theorem dX0_addIsland_82 : decode cX0_addIsland 82 = .ok (.iload 5, 2) := by decide +kernel
theorem dX0_addIsland_84 : decode cX0_addIsland 84 = .ok (.iastore, 1) := by decide +kernel
theorem dX0_addIsland_85 : decode cX0_addIsland 85 = .ok (.aload_n 0, 1) := by decide +kernel
theorem dX0_addIsland_86 : decode cX0_addIsland 86 = .ok (.getfield 21, 3) := by decide +kernel
theorem dX0_addIsland_89 : decode cX0_addIsland 89 = .ok (.iload 6, 2) := by decide +kernel
theorem dX0_addIsland_91 : decode cX0_addIsland 91 = .ok (.iconst 0, 1) := by decide +kernel
theorem dX0_addIsland_92 : decode cX0_addIsland 92 = .ok (.iastore, 1) := by decide +kernel
theorem dX0_addIsland_93 : decode cX0_addIsland 93 = .ok (.return_, 1) := by decide +kernel
theorem dX0_hasAllThatAreRead_0 : decode cX0_hasAllThatAreRead 0 = .ok (.iconst 0, 1) := by decide +kernel
theorem dX0_hasAllThatAreRead_1 : decode cX0_hasAllThatAreRead 1 = .ok (.istore_n 1, 1) := by decide +kernel
theorem dX0_hasAllThatAreRead_2 : decode cX0_hasAllThatAreRead 2 = .ok (.iconst 0, 1) := by decide +kernel
theorem dX0_hasAllThatAreRead_3 : decode cX0_hasAllThatAreRead 3 = .ok (.istore_n 2, 1) := by decide +kernel
theorem dX0_hasAllThatAreRead_4 : decode cX0_hasAllThatAreRead 4 = .ok (.iload_n 2, 1) := by decide +kernel
theorem dX0_hasAllThatAreRead_5 : decode cX0_hasAllThatAreRead 5 = .ok (.bipush 8, 2) := by decide +kernel
theorem dX0_hasAllThatAreRead_7 : decode cX0_hasAllThatAreRead 7 = .ok (.if_icmp .ge 18, 3) := by decide +kernel
theorem dX0_hasAllThatAreRead_10 : decode cX0_hasAllThatAreRead 10 = .ok (.iload_n 1, 1) := by decide +kernel
theorem dX0_hasAllThatAreRead_11 : decode cX0_hasAllThatAreRead 11 = .ok (.aload_n 0, 1) := by decide +kernel
theorem dX0_hasAllThatAreRead_12 : decode cX0_hasAllThatAreRead 12 = .ok (.getfield 18, 3) := by decide +kernel
theorem dX0_hasAllThatAreRead_15 : decode cX0_hasAllThatAreRead 15 = .ok (.iload_n 2, 1) := by decide +kernel
theorem dX0_hasAllThatAreRead_16 : decode cX0_hasAllThatAreRead 16 = .ok (.iaload, 1) := by decide +kernel
theorem dX0_hasAllThatAreRead_17 : decode cX0_hasAllThatAreRead 17 = .ok (.ior, 1) := by decide +kernel
theorem dX0_hasAllThatAreRead_18 : decode cX0_hasAllThatAreRead 18 = .ok (.istore_n 1, 1) := by decide +kernel
theorem dX0_hasAllThatAreRead_19 : decode cX0_hasAllThatAreRead 19 = .ok (.iinc 2 1, 3) := by decide +kernel
theorem dX0_hasAllThatAreRead_22 : decode cX0_hasAllThatAreRead 22 = .ok (.goto (-18), 3) := by decide +kernel
theorem dX0_hasAllThatAreRead_25 : decode cX0_hasAllThatAreRead 25 = .ok (.iload_n 1, 1) := by decide +kernel
theorem dX0_hasAllThatAreRead_26 : decode cX0_hasAllThatAreRead 26 = .ok (.aload_n 0, 1) := by decide +kernel
theorem dX0_hasAllThatAreRead_27 : decode cX0_hasAllThatAreRead 27 = .ok (.getfield 52, 3) := by decide +kernel
theorem dX0_hasAllThatAreRead_30 : decode cX0_hasAllThatAreRead 30 = .ok (.ishr, 1) := by decide +kernel
theorem dX0_hasAllThatAreRead_31 : decode cX0_hasAllThatAreRead 31 = .ok (.ifCond .ne 7, 3) := by decide +kernel
theorem dX0_hasAllThatAreRead_34 : decode cX0_hasAllThatAreRead 34 = .ok (.iconst 1, 1) := by decide +kernel
theorem dX0_hasAllThatAreRead_35 : decode cX0_hasAllThatAreRead 35 = .ok (.goto 4, 3) := by decide +kernel
theorem dX0_hasAllThatAreRead_38 : decode cX0_hasAllThatAreRead 38 = .ok (.iconst 0, 1) := by decide +kernel
theorem dX0_hasAllThatAreRead_39 : decode cX0_hasAllThatAreRead 39 = .ok (.ireturn, 1) := by decide +kernel
theorem dX0_islandsThatAre_0 : decode cX0_islandsThatAre 0 = .ok (.iconst 0, 1) := by decide +kernel
theorem dX0_islandsThatAre_1 : decode cX0_islandsThatAre 1 = .ok (.istore_n 2, 1) := by decide +kernel
theorem dX0_islandsThatAre_2 : decode cX0_islandsThatAre 2 = .ok (.iconst 0, 1) := by decide +kernel
theorem dX0_islandsThatAre_3 : decode cX0_islandsThatAre 3 = .ok (.istore_n 3, 1) := by decide +kernel
theorem dX0_islandsThatAre_4 : decode cX0_islandsThatAre 4 = .ok (.iload_n 3, 1) := by decide +kernel
theorem dX0_islandsThatAre_5 : decode cX0_islandsThatAre 5 = .ok (.bipush 8, 2) := by decide +kernel
theorem dX0_islandsThatAre_7 : decode cX0_islandsThatAre 7 = .ok (.if_icmp .ge 25, 3) := by decide +kernel
theorem dX0_islandsThatAre_10 : decode cX0_islandsThatAre 10 = .ok (.aload_n 0, 1) := by decide +kernel
theorem dX0_islandsThatAre_11 : decode cX0_islandsThatAre 11 = .ok (.getfield 21, 3) := by decide +kernel
theorem dX0_islandsThatAre_14 : decode cX0_islandsThatAre 14 = .ok (.iload_n 3, 1) := by decide +kernel
theorem dX0_islandsThatAre_15 : decode cX0_islandsThatAre 15 = .ok (.iaload, 1) := by decide +kernel
theorem dX0_islandsThatAre_16 : decode cX0_islandsThatAre 16 = .ok (.iload_n 1, 1) := by decide +kernel
theorem dX0_islandsThatAre_17 : decode cX0_islandsThatAre 17 = .ok (.if_icmp .ne 9, 3) := by decide +kernel
theorem dX0_islandsThatAre_20 : decode cX0_islandsThatAre 20 = .ok (.iload_n 2, 1) := by decide +kernel
theorem dX0_islandsThatAre_21 : decode cX0_islandsThatAre 21 = .ok (.iconst 1, 1) := by decide +kernel
theorem dX0_islandsThatAre_22 : decode cX0_islandsThatAre 22 = .ok (.iload_n 3, 1) := by decide +kernel
theorem dX0_islandsThatAre_23 : decode cX0_islandsThatAre 23 = .ok (.ishl, 1) := by decide +kernel
theorem dX0_islandsThatAre_24 : decode cX0_islandsThatAre 24 = .ok (.ior, 1) := by decide +kernel
theorem dX0_islandsThatAre_25 : decode cX0_islandsThatAre 25 = .ok (.istore_n 2, 1) := by decide +kernel
theorem dX0_islandsThatAre_26 : decode cX0_islandsThatAre 26 = .ok (.iinc 3 1, 3) := by decide +kernel
theorem dX0_islandsThatAre_29 : decode cX0_islandsThatAre 29 = .ok (.goto (-25), 3) := by decide +kernel
theorem dX0_islandsThatAre_32 : decode cX0_islandsThatAre 32 = .ok (.iload_n 2, 1) := by decide +kernel
theorem dX0_islandsThatAre_33 : decode cX0_islandsThatAre 33 = .ok (.ireturn, 1) := by decide +kernel
theorem dX0_readersOf_0 : decode cX0_readersOf 0 = .ok (.iconst 0, 1) := by decide +kernel
theorem dX0_readersOf_1 : decode cX0_readersOf 1 = .ok (.istore_n 2, 1) := by decide +kernel
theorem dX0_readersOf_2 : decode cX0_readersOf 2 = .ok (.iconst 0, 1) := by decide +kernel
theorem dX0_readersOf_3 : decode cX0_readersOf 3 = .ok (.istore_n 3, 1) := by decide +kernel
theorem dX0_readersOf_4 : decode cX0_readersOf 4 = .ok (.iload_n 3, 1) := by decide +kernel
theorem dX0_readersOf_5 : decode cX0_readersOf 5 = .ok (.bipush 8, 2) := by decide +kernel
theorem dX0_readersOf_7 : decode cX0_readersOf 7 = .ok (.if_icmp .ge 28, 3) := by decide +kernel
theorem dX0_readersOf_10 : decode cX0_readersOf 10 = .ok (.aload_n 0, 1) := by decide +kernel
theorem dX0_readersOf_11 : decode cX0_readersOf 11 = .ok (.getfield 18, 3) := by decide +kernel
theorem dX0_readersOf_14 : decode cX0_readersOf 14 = .ok (.iload_n 3, 1) := by decide +kernel
theorem dX0_readersOf_15 : decode cX0_readersOf 15 = .ok (.iaload, 1) := by decide +kernel
theorem dX0_readersOf_16 : decode cX0_readersOf 16 = .ok (.iload_n 1, 1) := by decide +kernel
theorem dX0_readersOf_17 : decode cX0_readersOf 17 = .ok (.invokestatic 77, 3) := by decide +kernel
theorem dX0_readersOf_20 : decode cX0_readersOf 20 = .ok (.ifCond .eq 9, 3) := by decide +kernel
theorem dX0_readersOf_23 : decode cX0_readersOf 23 = .ok (.iload_n 2, 1) := by decide +kernel
theorem dX0_readersOf_24 : decode cX0_readersOf 24 = .ok (.iconst 1, 1) := by decide +kernel
theorem dX0_readersOf_25 : decode cX0_readersOf 25 = .ok (.iload_n 3, 1) := by decide +kernel
theorem dX0_readersOf_26 : decode cX0_readersOf 26 = .ok (.ishl, 1) := by decide +kernel
theorem dX0_readersOf_27 : decode cX0_readersOf 27 = .ok (.ior, 1) := by decide +kernel
theorem dX0_readersOf_28 : decode cX0_readersOf 28 = .ok (.istore_n 2, 1) := by decide +kernel
theorem dX0_readersOf_29 : decode cX0_readersOf 29 = .ok (.iinc 3 1, 3) := by decide +kernel
theorem dX0_readersOf_32 : decode cX0_readersOf 32 = .ok (.goto (-28), 3) := by decide +kernel
theorem dX0_readersOf_35 : decode cX0_readersOf 35 = .ok (.iload_n 2, 1) := by decide +kernel
theorem dX0_readersOf_36 : decode cX0_readersOf 36 = .ok (.ireturn, 1) := by decide +kernel
theorem dX0_isHeard_0 : decode cX0_isHeard 0 = .ok (.iload_n 1, 1) := by decide +kernel
theorem dX0_isHeard_1 : decode cX0_isHeard 1 = .ok (.invokestatic 73, 3) := by decide +kernel
theorem dX0_isHeard_4 : decode cX0_isHeard 4 = .ok (.ifCond .eq 26, 3) := by decide +kernel
theorem dX0_isHeard_7 : decode cX0_isHeard 7 = .ok (.aload_n 0, 1) := by decide +kernel
theorem dX0_isHeard_8 : decode cX0_isHeard 8 = .ok (.getfield 21, 3) := by decide +kernel
theorem dX0_isHeard_11 : decode cX0_isHeard 11 = .ok (.iload_n 1, 1) := by decide +kernel
theorem dX0_isHeard_12 : decode cX0_isHeard 12 = .ok (.iaload, 1) := by decide +kernel
theorem dX0_isHeard_13 : decode cX0_isHeard 13 = .ok (.ifCond .eq 13, 3) := by decide +kernel
theorem dX0_isHeard_16 : decode cX0_isHeard 16 = .ok (.aload_n 0, 1) := by decide +kernel
theorem dX0_isHeard_17 : decode cX0_isHeard 17 = .ok (.getfield 21, 3) := by decide +kernel
theorem dX0_isHeard_20 : decode cX0_isHeard 20 = .ok (.iload_n 1, 1) := by decide +kernel
theorem dX0_isHeard_21 : decode cX0_isHeard 21 = .ok (.iaload, 1) := by decide +kernel
theorem dX0_isHeard_22 : decode cX0_isHeard 22 = .ok (.iconst 1, 1) := by decide +kernel
theorem dX0_isHeard_23 : decode cX0_isHeard 23 = .ok (.if_icmp .ne 7, 3) := by decide +kernel
theorem dX0_isHeard_26 : decode cX0_isHeard 26 = .ok (.iconst 1, 1) := by decide +kernel
theorem dX0_isHeard_27 : decode cX0_isHeard 27 = .ok (.goto 4, 3) := by decide +kernel
theorem dX0_isHeard_30 : decode cX0_isHeard 30 = .ok (.iconst 0, 1) := by decide +kernel
theorem dX0_isHeard_31 : decode cX0_isHeard 31 = .ok (.ireturn, 1) := by decide +kernel
theorem dX0_whatTells_0 : decode cX0_whatTells 0 = .ok (.iload_n 1, 1) := by decide +kernel
theorem dX0_whatTells_1 : decode cX0_whatTells 1 = .ok (.invokestatic 73, 3) := by decide +kernel
theorem dX0_whatTells_4 : decode cX0_whatTells 4 = .ok (.ifCond .ne 5, 3) := by decide +kernel
theorem dX0_whatTells_7 : decode cX0_whatTells 7 = .ok (.iconst 0, 1) := by decide +kernel
theorem dX0_whatTells_8 : decode cX0_whatTells 8 = .ok (.ireturn, 1) := by decide +kernel
theorem dX0_whatTells_9 : decode cX0_whatTells 9 = .ok (.aload_n 0, 1) := by decide +kernel
theorem dX0_whatTells_10 : decode cX0_whatTells 10 = .ok (.iload_n 1, 1) := by decide +kernel
theorem dX0_whatTells_11 : decode cX0_whatTells 11 = .ok (.invokevirtual 81, 3) := by decide +kernel
theorem dX0_whatTells_14 : decode cX0_whatTells 14 = .ok (.ifCond .eq 10, 3) := by decide +kernel
theorem dX0_whatTells_17 : decode cX0_whatTells 17 = .ok (.aload_n 0, 1) := by decide +kernel
theorem dX0_whatTells_18 : decode cX0_whatTells 18 = .ok (.getfield 24, 3) := by decide +kernel
theorem dX0_whatTells_21 : decode cX0_whatTells 21 = .ok (.iload_n 1, 1) := by decide +kernel
theorem dX0_whatTells_22 : decode cX0_whatTells 22 = .ok (.iaload, 1) := by decide +kernel
theorem dX0_whatTells_23 : decode cX0_whatTells 23 = .ok (.ireturn, 1) := by decide +kernel
theorem dX0_whatTells_24 : decode cX0_whatTells 24 = .ok (.aload_n 0, 1) := by decide +kernel
theorem dX0_whatTells_25 : decode cX0_whatTells 25 = .ok (.getfield 55, 3) := by decide +kernel
theorem dX0_whatTells_28 : decode cX0_whatTells 28 = .ok (.iload_n 1, 1) := by decide +kernel
theorem dX0_whatTells_29 : decode cX0_whatTells 29 = .ok (.invokestatic 77, 3) := by decide +kernel
theorem dX0_whatTells_32 : decode cX0_whatTells 32 = .ok (.ifCond .eq 7, 3) := by decide +kernel
theorem dX0_whatTells_35 : decode cX0_whatTells 35 = .ok (.iconst 0, 1) := by decide +kernel
theorem dX0_whatTells_36 : decode cX0_whatTells 36 = .ok (.goto 6, 3) := by decide +kernel
theorem dX0_whatTells_39 : decode cX0_whatTells 39 = .ok (.sipush 255, 3) := by decide +kernel
theorem dX0_whatTells_42 : decode cX0_whatTells 42 = .ok (.ireturn, 1) := by decide +kernel
theorem dX0_islandInQueue_0 : decode cX0_islandInQueue 0 = .ok (.iload_n 1, 1) := by decide +kernel
theorem dX0_islandInQueue_1 : decode cX0_islandInQueue 1 = .ok (.invokestatic 73, 3) := by decide +kernel
theorem dX0_islandInQueue_4 : decode cX0_islandInQueue 4 = .ok (.ifCond .eq 20, 3) := by decide +kernel
theorem dX0_islandInQueue_7 : decode cX0_islandInQueue 7 = .ok (.iload_n 1, 1) := by decide +kernel
theorem dX0_islandInQueue_8 : decode cX0_islandInQueue 8 = .ok (.aload_n 0, 1) := by decide +kernel
theorem dX0_islandInQueue_9 : decode cX0_islandInQueue 9 = .ok (.getfield 61, 3) := by decide +kernel
theorem dX0_islandInQueue_12 : decode cX0_islandInQueue 12 = .ok (.if_icmp .ge 12, 3) := by decide +kernel
theorem dX0_islandInQueue_15 : decode cX0_islandInQueue 15 = .ok (.aload_n 0, 1) := by decide +kernel
theorem dX0_islandInQueue_16 : decode cX0_islandInQueue 16 = .ok (.getfield 36, 3) := by decide +kernel
theorem dX0_islandInQueue_19 : decode cX0_islandInQueue 19 = .ok (.iload_n 1, 1) := by decide +kernel
theorem dX0_islandInQueue_20 : decode cX0_islandInQueue 20 = .ok (.iaload, 1) := by decide +kernel
theorem dX0_islandInQueue_21 : decode cX0_islandInQueue 21 = .ok (.goto 4, 3) := by decide +kernel
theorem dX0_islandInQueue_24 : decode cX0_islandInQueue 24 = .ok (.iconst (-1), 1) := by decide +kernel
theorem dX0_islandInQueue_25 : decode cX0_islandInQueue 25 = .ok (.ireturn, 1) := by decide +kernel
theorem dX0_placeInQueue_0 : decode cX0_placeInQueue 0 = .ok (.iconst 0, 1) := by decide +kernel
theorem dX0_placeInQueue_1 : decode cX0_placeInQueue 1 = .ok (.istore_n 2, 1) := by decide +kernel
theorem dX0_placeInQueue_2 : decode cX0_placeInQueue 2 = .ok (.iload_n 2, 1) := by decide +kernel
theorem dX0_placeInQueue_3 : decode cX0_placeInQueue 3 = .ok (.bipush 8, 2) := by decide +kernel
theorem dX0_placeInQueue_5 : decode cX0_placeInQueue 5 = .ok (.if_icmp .ge 29, 3) := by decide +kernel
theorem dX0_placeInQueue_8 : decode cX0_placeInQueue 8 = .ok (.iload_n 2, 1) := by decide +kernel
theorem dX0_placeInQueue_9 : decode cX0_placeInQueue 9 = .ok (.aload_n 0, 1) := by decide +kernel
theorem dX0_placeInQueue_10 : decode cX0_placeInQueue 10 = .ok (.getfield 61, 3) := by decide +kernel
theorem dX0_placeInQueue_13 : decode cX0_placeInQueue 13 = .ok (.if_icmp .ge 21, 3) := by decide +kernel
theorem dX0_placeInQueue_16 : decode cX0_placeInQueue 16 = .ok (.aload_n 0, 1) := by decide +kernel
theorem dX0_placeInQueue_17 : decode cX0_placeInQueue 17 = .ok (.getfield 36, 3) := by decide +kernel
theorem dX0_placeInQueue_20 : decode cX0_placeInQueue 20 = .ok (.iload_n 2, 1) := by decide +kernel
theorem dX0_placeInQueue_21 : decode cX0_placeInQueue 21 = .ok (.iaload, 1) := by decide +kernel
theorem dX0_placeInQueue_22 : decode cX0_placeInQueue 22 = .ok (.iload_n 1, 1) := by decide +kernel
theorem dX0_placeInQueue_23 : decode cX0_placeInQueue 23 = .ok (.if_icmp .ne 5, 3) := by decide +kernel
theorem dX0_placeInQueue_26 : decode cX0_placeInQueue 26 = .ok (.iload_n 2, 1) := by decide +kernel
theorem dX0_placeInQueue_27 : decode cX0_placeInQueue 27 = .ok (.ireturn, 1) := by decide +kernel
theorem dX0_placeInQueue_28 : decode cX0_placeInQueue 28 = .ok (.iinc 2 1, 3) := by decide +kernel
theorem dX0_placeInQueue_31 : decode cX0_placeInQueue 31 = .ok (.goto (-29), 3) := by decide +kernel
theorem dX0_placeInQueue_34 : decode cX0_placeInQueue 34 = .ok (.bipush (-6), 2) := by decide +kernel
theorem dX0_placeInQueue_36 : decode cX0_placeInQueue 36 = .ok (.ireturn, 1) := by decide +kernel
theorem dX0_risingLoad_0 : decode cX0_risingLoad 0 = .ok (.iconst 0, 1) := by decide +kernel
theorem dX0_risingLoad_1 : decode cX0_risingLoad 1 = .ok (.istore_n 1, 1) := by decide +kernel
theorem dX0_risingLoad_2 : decode cX0_risingLoad 2 = .ok (.iconst 0, 1) := by decide +kernel
theorem dX0_risingLoad_3 : decode cX0_risingLoad 3 = .ok (.istore_n 2, 1) := by decide +kernel
theorem dX0_risingLoad_4 : decode cX0_risingLoad 4 = .ok (.iload_n 2, 1) := by decide +kernel
theorem dX0_risingLoad_5 : decode cX0_risingLoad 5 = .ok (.bipush 8, 2) := by decide +kernel
theorem dX0_risingLoad_7 : decode cX0_risingLoad 7 = .ok (.if_icmp .ge 28, 3) := by decide +kernel
theorem dX0_risingLoad_10 : decode cX0_risingLoad 10 = .ok (.aload_n 0, 1) := by decide +kernel
theorem dX0_risingLoad_11 : decode cX0_risingLoad 11 = .ok (.getfield 21, 3) := by decide +kernel
theorem dX0_risingLoad_14 : decode cX0_risingLoad 14 = .ok (.iload_n 2, 1) := by decide +kernel
theorem dX0_risingLoad_15 : decode cX0_risingLoad 15 = .ok (.iaload, 1) := by decide +kernel
theorem dX0_risingLoad_16 : decode cX0_risingLoad 16 = .ok (.iconst 4, 1) := by decide +kernel
theorem dX0_risingLoad_17 : decode cX0_risingLoad 17 = .ok (.if_icmp .ne 12, 3) := by decide +kernel
theorem dX0_risingLoad_20 : decode cX0_risingLoad 20 = .ok (.iload_n 1, 1) := by decide +kernel
theorem dX0_risingLoad_21 : decode cX0_risingLoad 21 = .ok (.aload_n 0, 1) := by decide +kernel
theorem dX0_risingLoad_22 : decode cX0_risingLoad 22 = .ok (.getfield 15, 3) := by decide +kernel
theorem dX0_risingLoad_25 : decode cX0_risingLoad 25 = .ok (.iload_n 2, 1) := by decide +kernel
theorem dX0_risingLoad_26 : decode cX0_risingLoad 26 = .ok (.iaload, 1) := by decide +kernel
theorem dX0_risingLoad_27 : decode cX0_risingLoad 27 = .ok (.iadd, 1) := by decide +kernel
theorem dX0_risingLoad_28 : decode cX0_risingLoad 28 = .ok (.istore_n 1, 1) := by decide +kernel
theorem dX0_risingLoad_29 : decode cX0_risingLoad 29 = .ok (.iinc 2 1, 3) := by decide +kernel
theorem dX0_risingLoad_32 : decode cX0_risingLoad 32 = .ok (.goto (-28), 3) := by decide +kernel
theorem dX0_risingLoad_35 : decode cX0_risingLoad 35 = .ok (.iload_n 1, 1) := by decide +kernel
theorem dX0_risingLoad_36 : decode cX0_risingLoad 36 = .ok (.ireturn, 1) := by decide +kernel
theorem dX0_noiseSoFar_0 : decode cX0_noiseSoFar 0 = .ok (.iconst 0, 1) := by decide +kernel
theorem dX0_noiseSoFar_1 : decode cX0_noiseSoFar 1 = .ok (.istore_n 1, 1) := by decide +kernel
theorem dX0_noiseSoFar_2 : decode cX0_noiseSoFar 2 = .ok (.iconst 0, 1) := by decide +kernel
theorem dX0_noiseSoFar_3 : decode cX0_noiseSoFar 3 = .ok (.istore_n 2, 1) := by decide +kernel
theorem dX0_noiseSoFar_4 : decode cX0_noiseSoFar 4 = .ok (.iload_n 2, 1) := by decide +kernel
theorem dX0_noiseSoFar_5 : decode cX0_noiseSoFar 5 = .ok (.bipush 8, 2) := by decide +kernel
theorem dX0_noiseSoFar_7 : decode cX0_noiseSoFar 7 = .ok (.if_icmp .ge 18, 3) := by decide +kernel
theorem dX0_noiseSoFar_10 : decode cX0_noiseSoFar 10 = .ok (.iload_n 1, 1) := by decide +kernel
theorem dX0_noiseSoFar_11 : decode cX0_noiseSoFar 11 = .ok (.aload_n 0, 1) := by decide +kernel
theorem dX0_noiseSoFar_12 : decode cX0_noiseSoFar 12 = .ok (.getfield 33, 3) := by decide +kernel
theorem dX0_noiseSoFar_15 : decode cX0_noiseSoFar 15 = .ok (.iload_n 2, 1) := by decide +kernel
theorem dX0_noiseSoFar_16 : decode cX0_noiseSoFar 16 = .ok (.iaload, 1) := by decide +kernel
theorem dX0_noiseSoFar_17 : decode cX0_noiseSoFar 17 = .ok (.iadd, 1) := by decide +kernel
theorem dX0_noiseSoFar_18 : decode cX0_noiseSoFar 18 = .ok (.istore_n 1, 1) := by decide +kernel
theorem dX0_noiseSoFar_19 : decode cX0_noiseSoFar 19 = .ok (.iinc 2 1, 3) := by decide +kernel
theorem dX0_noiseSoFar_22 : decode cX0_noiseSoFar 22 = .ok (.goto (-18), 3) := by decide +kernel
theorem dX0_noiseSoFar_25 : decode cX0_noiseSoFar 25 = .ok (.iload_n 1, 1) := by decide +kernel
theorem dX0_noiseSoFar_26 : decode cX0_noiseSoFar 26 = .ok (.ireturn, 1) := by decide +kernel
theorem dX0_sumOfValues_0 : decode cX0_sumOfValues 0 = .ok (.iconst 0, 1) := by decide +kernel
theorem dX0_sumOfValues_1 : decode cX0_sumOfValues 1 = .ok (.istore_n 1, 1) := by decide +kernel
theorem dX0_sumOfValues_2 : decode cX0_sumOfValues 2 = .ok (.iconst 0, 1) := by decide +kernel
theorem dX0_sumOfValues_3 : decode cX0_sumOfValues 3 = .ok (.istore_n 2, 1) := by decide +kernel
theorem dX0_sumOfValues_4 : decode cX0_sumOfValues 4 = .ok (.iload_n 2, 1) := by decide +kernel
theorem dX0_sumOfValues_5 : decode cX0_sumOfValues 5 = .ok (.bipush 8, 2) := by decide +kernel
theorem dX0_sumOfValues_7 : decode cX0_sumOfValues 7 = .ok (.if_icmp .ge 18, 3) := by decide +kernel
theorem dX0_sumOfValues_10 : decode cX0_sumOfValues 10 = .ok (.iload_n 1, 1) := by decide +kernel
theorem dX0_sumOfValues_11 : decode cX0_sumOfValues 11 = .ok (.aload_n 0, 1) := by decide +kernel
theorem dX0_sumOfValues_12 : decode cX0_sumOfValues 12 = .ok (.getfield 24, 3) := by decide +kernel
theorem dX0_sumOfValues_15 : decode cX0_sumOfValues 15 = .ok (.iload_n 2, 1) := by decide +kernel
theorem dX0_sumOfValues_16 : decode cX0_sumOfValues 16 = .ok (.iaload, 1) := by decide +kernel
theorem dX0_sumOfValues_17 : decode cX0_sumOfValues 17 = .ok (.iadd, 1) := by decide +kernel
theorem dX0_sumOfValues_18 : decode cX0_sumOfValues 18 = .ok (.istore_n 1, 1) := by decide +kernel
theorem dX0_sumOfValues_19 : decode cX0_sumOfValues 19 = .ok (.iinc 2 1, 3) := by decide +kernel
theorem dX0_sumOfValues_22 : decode cX0_sumOfValues 22 = .ok (.goto (-18), 3) := by decide +kernel
theorem dX0_sumOfValues_25 : decode cX0_sumOfValues 25 = .ok (.iload_n 1, 1) := by decide +kernel
theorem dX0_sumOfValues_26 : decode cX0_sumOfValues 26 = .ok (.ireturn, 1) := by decide +kernel
theorem dX0_areAllAwake_0 : decode cX0_areAllAwake 0 = .ok (.aload_n 0, 1) := by decide +kernel
theorem dX0_areAllAwake_1 : decode cX0_areAllAwake 1 = .ok (.iconst 0, 1) := by decide +kernel
theorem dX0_areAllAwake_2 : decode cX0_areAllAwake 2 = .ok (.invokevirtual 84, 3) := by decide +kernel
theorem dX0_areAllAwake_5 : decode cX0_areAllAwake 5 = .ok (.invokestatic 88, 3) := by decide +kernel
theorem dX0_areAllAwake_8 : decode cX0_areAllAwake 8 = .ok (.aload_n 0, 1) := by decide +kernel
theorem dX0_areAllAwake_9 : decode cX0_areAllAwake 9 = .ok (.getfield 52, 3) := by decide +kernel
theorem dX0_areAllAwake_12 : decode cX0_areAllAwake 12 = .ok (.if_icmp .ne 7, 3) := by decide +kernel
theorem dX0_areAllAwake_15 : decode cX0_areAllAwake 15 = .ok (.iconst 1, 1) := by decide +kernel
theorem dX0_areAllAwake_16 : decode cX0_areAllAwake 16 = .ok (.goto 4, 3) := by decide +kernel
theorem dX0_areAllAwake_19 : decode cX0_areAllAwake 19 = .ok (.iconst 0, 1) := by decide +kernel
theorem dX0_areAllAwake_20 : decode cX0_areAllAwake 20 = .ok (.ireturn, 1) := by decide +kernel
theorem dX0_isAtRest_0 : decode cX0_isAtRest 0 = .ok (.iconst 0, 1) := by decide +kernel
theorem dX0_isAtRest_1 : decode cX0_isAtRest 1 = .ok (.istore_n 1, 1) := by decide +kernel
theorem dX0_isAtRest_2 : decode cX0_isAtRest 2 = .ok (.iload_n 1, 1) := by decide +kernel
theorem dX0_isAtRest_3 : decode cX0_isAtRest 3 = .ok (.bipush 8, 2) := by decide +kernel
theorem dX0_isAtRest_5 : decode cX0_isAtRest 5 = .ok (.if_icmp .ge 41, 3) := by decide +kernel
theorem dX0_isAtRest_8 : decode cX0_isAtRest 8 = .ok (.aload_n 0, 1) := by decide +kernel
theorem dX0_isAtRest_9 : decode cX0_isAtRest 9 = .ok (.getfield 21, 3) := by decide +kernel
theorem dX0_isAtRest_12 : decode cX0_isAtRest 12 = .ok (.iload_n 1, 1) := by decide +kernel
theorem dX0_isAtRest_13 : decode cX0_isAtRest 13 = .ok (.iaload, 1) := by decide +kernel
theorem dX0_isAtRest_14 : decode cX0_isAtRest 14 = .ok (.iconst 1, 1) := by decide +kernel
theorem dX0_isAtRest_15 : decode cX0_isAtRest 15 = .ok (.if_icmp .eq 23, 3) := by decide +kernel
theorem dX0_isAtRest_18 : decode cX0_isAtRest 18 = .ok (.aload_n 0, 1) := by decide +kernel
theorem dX0_isAtRest_19 : decode cX0_isAtRest 19 = .ok (.getfield 21, 3) := by decide +kernel
theorem dX0_isAtRest_22 : decode cX0_isAtRest 22 = .ok (.iload_n 1, 1) := by decide +kernel
theorem dX0_isAtRest_23 : decode cX0_isAtRest 23 = .ok (.iaload, 1) := by decide +kernel
theorem dX0_isAtRest_24 : decode cX0_isAtRest 24 = .ok (.iconst 3, 1) := by decide +kernel
theorem dX0_isAtRest_25 : decode cX0_isAtRest 25 = .ok (.if_icmp .eq 13, 3) := by decide +kernel
theorem dX0_isAtRest_28 : decode cX0_isAtRest 28 = .ok (.aload_n 0, 1) := by decide +kernel
theorem dX0_isAtRest_29 : decode cX0_isAtRest 29 = .ok (.getfield 21, 3) := by decide +kernel
theorem dX0_isAtRest_32 : decode cX0_isAtRest 32 = .ok (.iload_n 1, 1) := by decide +kernel
theorem dX0_isAtRest_33 : decode cX0_isAtRest 33 = .ok (.iaload, 1) := by decide +kernel
theorem dX0_isAtRest_34 : decode cX0_isAtRest 34 = .ok (.iconst 4, 1) := by decide +kernel
theorem dX0_isAtRest_35 : decode cX0_isAtRest 35 = .ok (.if_icmp .ne 5, 3) := by decide +kernel
theorem dX0_isAtRest_38 : decode cX0_isAtRest 38 = .ok (.iconst 0, 1) := by decide +kernel
theorem dX0_isAtRest_39 : decode cX0_isAtRest 39 = .ok (.ireturn, 1) := by decide +kernel
theorem dX0_isAtRest_40 : decode cX0_isAtRest 40 = .ok (.iinc 1 1, 3) := by decide +kernel
theorem dX0_isAtRest_43 : decode cX0_isAtRest 43 = .ok (.goto (-41), 3) := by decide +kernel
theorem dX0_isAtRest_46 : decode cX0_isAtRest 46 = .ok (.iconst 1, 1) := by decide +kernel
theorem dX0_isAtRest_47 : decode cX0_isAtRest 47 = .ok (.ireturn, 1) := by decide +kernel
theorem dX0_orderToWake_0 : decode cX0_orderToWake 0 = .ok (.iload_n 1, 1) := by decide +kernel
theorem dX0_orderToWake_1 : decode cX0_orderToWake 1 = .ok (.invokestatic 73, 3) := by decide +kernel
theorem dX0_orderToWake_4 : decode cX0_orderToWake 4 = .ok (.ifCond .eq 40, 3) := by decide +kernel
theorem dX0_orderToWake_7 : decode cX0_orderToWake 7 = .ok (.aload_n 0, 1) := by decide +kernel
theorem dX0_orderToWake_8 : decode cX0_orderToWake 8 = .ok (.getfield 61, 3) := by decide +kernel
theorem dX0_orderToWake_11 : decode cX0_orderToWake 11 = .ok (.invokestatic 73, 3) := by decide +kernel
theorem dX0_orderToWake_14 : decode cX0_orderToWake 14 = .ok (.ifCond .eq 30, 3) := by decide +kernel
theorem dX0_orderToWake_17 : decode cX0_orderToWake 17 = .ok (.aload_n 0, 1) := by decide +kernel
theorem dX0_orderToWake_18 : decode cX0_orderToWake 18 = .ok (.getfield 21, 3) := by decide +kernel
theorem dX0_orderToWake_21 : decode cX0_orderToWake 21 = .ok (.iload_n 1, 1) := by decide +kernel
theorem dX0_orderToWake_22 : decode cX0_orderToWake 22 = .ok (.iconst 3, 1) := by decide +kernel
theorem dX0_orderToWake_23 : decode cX0_orderToWake 23 = .ok (.iastore, 1) := by decide +kernel
theorem dX0_orderToWake_24 : decode cX0_orderToWake 24 = .ok (.aload_n 0, 1) := by decide +kernel
theorem dX0_orderToWake_25 : decode cX0_orderToWake 25 = .ok (.getfield 36, 3) := by decide +kernel
theorem dX0_orderToWake_28 : decode cX0_orderToWake 28 = .ok (.aload_n 0, 1) := by decide +kernel
theorem dX0_orderToWake_29 : decode cX0_orderToWake 29 = .ok (.getfield 61, 3) := by decide +kernel
theorem dX0_orderToWake_32 : decode cX0_orderToWake 32 = .ok (.iload_n 1, 1) := by decide +kernel
theorem dX0_orderToWake_33 : decode cX0_orderToWake 33 = .ok (.iastore, 1) := by decide +kernel
theorem dX0_orderToWake_34 : decode cX0_orderToWake 34 = .ok (.aload_n 0, 1) := by decide +kernel
theorem dX0_orderToWake_35 : decode cX0_orderToWake 35 = .ok (.dup, 1) := by decide +kernel
theorem dX0_orderToWake_36 : decode cX0_orderToWake 36 = .ok (.getfield 61, 3) := by decide +kernel
theorem dX0_orderToWake_39 : decode cX0_orderToWake 39 = .ok (.iconst 1, 1) := by decide +kernel
theorem dX0_orderToWake_40 : decode cX0_orderToWake 40 = .ok (.iadd, 1) := by decide +kernel
theorem dX0_orderToWake_41 : decode cX0_orderToWake 41 = .ok (.putfield 61, 3) := by decide +kernel
theorem dX0_orderToWake_44 : decode cX0_orderToWake 44 = .ok (.return_, 1) := by decide +kernel
theorem dX0_orderSleepersToWake_0 : decode cX0_orderSleepersToWake 0 = .ok (.iconst 0, 1) := by decide +kernel
theorem dX0_orderSleepersToWake_1 : decode cX0_orderSleepersToWake 1 = .ok (.istore_n 1, 1) := by decide +kernel
theorem dX0_orderSleepersToWake_2 : decode cX0_orderSleepersToWake 2 = .ok (.iload_n 1, 1) := by decide +kernel
theorem dX0_orderSleepersToWake_3 : decode cX0_orderSleepersToWake 3 = .ok (.bipush 8, 2) := by decide +kernel
theorem dX0_orderSleepersToWake_5 : decode cX0_orderSleepersToWake 5 = .ok (.if_icmp .ge 24, 3) := by decide +kernel
theorem dX0_orderSleepersToWake_8 : decode cX0_orderSleepersToWake 8 = .ok (.aload_n 0, 1) := by decide +kernel
theorem dX0_orderSleepersToWake_9 : decode cX0_orderSleepersToWake 9 = .ok (.getfield 21, 3) := by decide +kernel
theorem dX0_orderSleepersToWake_12 : decode cX0_orderSleepersToWake 12 = .ok (.iload_n 1, 1) := by decide +kernel
theorem dX0_orderSleepersToWake_13 : decode cX0_orderSleepersToWake 13 = .ok (.iaload, 1) := by decide +kernel
theorem dX0_orderSleepersToWake_14 : decode cX0_orderSleepersToWake 14 = .ok (.iconst 2, 1) := by decide +kernel
theorem dX0_orderSleepersToWake_15 : decode cX0_orderSleepersToWake 15 = .ok (.if_icmp .ne 8, 3) := by decide +kernel
theorem dX0_orderSleepersToWake_18 : decode cX0_orderSleepersToWake 18 = .ok (.aload_n 0, 1) := by decide +kernel
theorem dX0_orderSleepersToWake_19 : decode cX0_orderSleepersToWake 19 = .ok (.iload_n 1, 1) := by decide +kernel
theorem dX0_orderSleepersToWake_20 : decode cX0_orderSleepersToWake 20 = .ok (.invokevirtual 93, 3) := by decide +kernel
theorem dX0_orderSleepersToWake_23 : decode cX0_orderSleepersToWake 23 = .ok (.iinc 1 1, 3) := by decide +kernel
theorem dX0_orderSleepersToWake_26 : decode cX0_orderSleepersToWake 26 = .ok (.goto (-24), 3) := by decide +kernel
theorem dX0_orderSleepersToWake_29 : decode cX0_orderSleepersToWake 29 = .ok (.return_, 1) := by decide +kernel
theorem dX0_letPass_0 : decode cX0_letPass 0 = .ok (.iconst 0, 1) := by decide +kernel
theorem dX0_letPass_1 : decode cX0_letPass 1 = .ok (.istore_n 2, 1) := by decide +kernel
theorem dX0_letPass_2 : decode cX0_letPass 2 = .ok (.iload_n 2, 1) := by decide +kernel
theorem dX0_letPass_3 : decode cX0_letPass 3 = .ok (.iload_n 1, 1) := by decide +kernel
theorem dX0_letPass_4 : decode cX0_letPass 4 = .ok (.if_icmp .ge 42, 3) := by decide +kernel
theorem dX0_letPass_7 : decode cX0_letPass 7 = .ok (.aload_n 0, 1) := by decide +kernel
theorem dX0_letPass_8 : decode cX0_letPass 8 = .ok (.invokevirtual 97, 3) := by decide +kernel
theorem dX0_letPass_11 : decode cX0_letPass 11 = .ok (.aload_n 0, 1) := by decide +kernel
theorem dX0_letPass_12 : decode cX0_letPass 12 = .ok (.invokevirtual 100, 3) := by decide +kernel
theorem dX0_letPass_15 : decode cX0_letPass 15 = .ok (.aload_n 0, 1) := by decide +kernel
theorem dX0_letPass_16 : decode cX0_letPass 16 = .ok (.dup, 1) := by decide +kernel
theorem dX0_letPass_17 : decode cX0_letPass 17 = .ok (.getfield 64, 3) := by decide +kernel
theorem dX0_letPass_20 : decode cX0_letPass 20 = .ok (.iconst 1, 1) := by decide +kernel
theorem dX0_letPass_21 : decode cX0_letPass 21 = .ok (.iadd, 1) := by decide +kernel
theorem dX0_letPass_22 : decode cX0_letPass 22 = .ok (.putfield 64, 3) := by decide +kernel
theorem dX0_letPass_25 : decode cX0_letPass 25 = .ok (.aload_n 0, 1) := by decide +kernel
theorem dX0_letPass_26 : decode cX0_letPass 26 = .ok (.aload_n 0, 1) := by decide +kernel
theorem dX0_letPass_27 : decode cX0_letPass 27 = .ok (.getfield 70, 3) := by decide +kernel
theorem dX0_letPass_30 : decode cX0_letPass 30 = .ok (.aload_n 0, 1) := by decide +kernel
theorem dX0_letPass_31 : decode cX0_letPass 31 = .ok (.invokevirtual 103, 3) := by decide +kernel
theorem dX0_letPass_34 : decode cX0_letPass 34 = .ok (.invokestatic 107, 3) := by decide +kernel
theorem dX0_letPass_37 : decode cX0_letPass 37 = .ok (.putfield 70, 3) := by decide +kernel
theorem dX0_letPass_40 : decode cX0_letPass 40 = .ok (.iinc 2 1, 3) := by decide +kernel
theorem dX0_letPass_43 : decode cX0_letPass 43 = .ok (.goto (-41), 3) := by decide +kernel
theorem dX0_letPass_46 : decode cX0_letPass 46 = .ok (.return_, 1) := by decide +kernel
theorem dX0_readOneAnother_0 : decode cX0_readOneAnother 0 = .ok (.iconst 0, 1) := by decide +kernel
theorem dX0_readOneAnother_1 : decode cX0_readOneAnother 1 = .ok (.istore_n 1, 1) := by decide +kernel
theorem dX0_readOneAnother_2 : decode cX0_readOneAnother 2 = .ok (.iconst 0, 1) := by decide +kernel
theorem dX0_readOneAnother_3 : decode cX0_readOneAnother 3 = .ok (.istore_n 2, 1) := by decide +kernel
theorem dX0_readOneAnother_4 : decode cX0_readOneAnother 4 = .ok (.iload_n 2, 1) := by decide +kernel
theorem dX0_readOneAnother_5 : decode cX0_readOneAnother 5 = .ok (.bipush 8, 2) := by decide +kernel
theorem dX0_readOneAnother_7 : decode cX0_readOneAnother 7 = .ok (.if_icmp .ge 45, 3) := by decide +kernel
theorem dX0_readOneAnother_10 : decode cX0_readOneAnother 10 = .ok (.aload_n 0, 1) := by decide +kernel
theorem dX0_readOneAnother_11 : decode cX0_readOneAnother 11 = .ok (.getfield 39, 3) := by decide +kernel
theorem dX0_readOneAnother_14 : decode cX0_readOneAnother 14 = .ok (.iload_n 2, 1) := by decide +kernel
theorem dX0_readOneAnother_15 : decode cX0_readOneAnother 15 = .ok (.aload_n 0, 1) := by decide +kernel
theorem dX0_readOneAnother_16 : decode cX0_readOneAnother 16 = .ok (.iload_n 2, 1) := by decide +kernel
theorem dX0_readOneAnother_17 : decode cX0_readOneAnother 17 = .ok (.invokevirtual 113, 3) := by decide +kernel
theorem dX0_readOneAnother_20 : decode cX0_readOneAnother 20 = .ok (.iastore, 1) := by decide +kernel
theorem dX0_readOneAnother_21 : decode cX0_readOneAnother 21 = .ok (.aload_n 0, 1) := by decide +kernel
theorem dX0_readOneAnother_22 : decode cX0_readOneAnother 22 = .ok (.iload_n 2, 1) := by decide +kernel
theorem dX0_readOneAnother_23 : decode cX0_readOneAnother 23 = .ok (.invokevirtual 81, 3) := by decide +kernel
theorem dX0_readOneAnother_26 : decode cX0_readOneAnother 26 = .ok (.ifCond .ne 20, 3) := by decide +kernel
theorem dX0_readOneAnother_29 : decode cX0_readOneAnother 29 = .ok (.aload_n 0, 1) := by decide +kernel
theorem dX0_readOneAnother_30 : decode cX0_readOneAnother 30 = .ok (.getfield 55, 3) := by decide +kernel
theorem dX0_readOneAnother_33 : decode cX0_readOneAnother 33 = .ok (.iload_n 2, 1) := by decide +kernel
theorem dX0_readOneAnother_34 : decode cX0_readOneAnother 34 = .ok (.invokestatic 77, 3) := by decide +kernel
theorem dX0_readOneAnother_37 : decode cX0_readOneAnother 37 = .ok (.ifCond .ne 9, 3) := by decide +kernel
theorem dX0_readOneAnother_40 : decode cX0_readOneAnother 40 = .ok (.iload_n 1, 1) := by decide +kernel
theorem dX0_readOneAnother_41 : decode cX0_readOneAnother 41 = .ok (.iconst 1, 1) := by decide +kernel
theorem dX0_readOneAnother_42 : decode cX0_readOneAnother 42 = .ok (.iload_n 2, 1) := by decide +kernel
theorem dX0_readOneAnother_43 : decode cX0_readOneAnother 43 = .ok (.ishl, 1) := by decide +kernel
theorem dX0_readOneAnother_44 : decode cX0_readOneAnother 44 = .ok (.ior, 1) := by decide +kernel
theorem dX0_readOneAnother_45 : decode cX0_readOneAnother 45 = .ok (.istore_n 1, 1) := by decide +kernel
theorem dX0_readOneAnother_46 : decode cX0_readOneAnother 46 = .ok (.iinc 2 1, 3) := by decide +kernel
theorem dX0_readOneAnother_49 : decode cX0_readOneAnother 49 = .ok (.goto (-45), 3) := by decide +kernel
theorem dX0_readOneAnother_52 : decode cX0_readOneAnother 52 = .ok (.iconst 0, 1) := by decide +kernel
theorem dX0_readOneAnother_53 : decode cX0_readOneAnother 53 = .ok (.istore_n 2, 1) := by decide +kernel
theorem dX0_readOneAnother_54 : decode cX0_readOneAnother 54 = .ok (.iload_n 2, 1) := by decide +kernel
theorem dX0_readOneAnother_55 : decode cX0_readOneAnother 55 = .ok (.bipush 8, 2) := by decide +kernel
theorem dX0_readOneAnother_57 : decode cX0_readOneAnother 57 = .ok (.if_icmp .ge 65, 3) := by decide +kernel
theorem dX0_readOneAnother_60 : decode cX0_readOneAnother 60 = .ok (.aload_n 0, 1) := by decide +kernel
theorem dX0_readOneAnother_61 : decode cX0_readOneAnother 61 = .ok (.getfield 21, 3) := by decide +kernel
theorem dX0_readOneAnother_64 : decode cX0_readOneAnother 64 = .ok (.iload_n 2, 1) := by decide +kernel
theorem dX0_readOneAnother_65 : decode cX0_readOneAnother 65 = .ok (.iaload, 1) := by decide +kernel
theorem dX0_readOneAnother_66 : decode cX0_readOneAnother 66 = .ok (.ifCond .ne 50, 3) := by decide +kernel
theorem dX0_readOneAnother_69 : decode cX0_readOneAnother 69 = .ok (.aload_n 0, 1) := by decide +kernel
theorem dX0_readOneAnother_70 : decode cX0_readOneAnother 70 = .ok (.getfield 24, 3) := by decide +kernel
theorem dX0_readOneAnother_73 : decode cX0_readOneAnother 73 = .ok (.iload_n 2, 1) := by decide +kernel
theorem dX0_readOneAnother_74 : decode cX0_readOneAnother 74 = .ok (.aload_n 0, 1) := by decide +kernel
theorem dX0_readOneAnother_75 : decode cX0_readOneAnother 75 = .ok (.getfield 24, 3) := by decide +kernel
theorem dX0_readOneAnother_78 : decode cX0_readOneAnother 78 = .ok (.iload_n 2, 1) := by decide +kernel
theorem dX0_readOneAnother_79 : decode cX0_readOneAnother 79 = .ok (.iaload, 1) := by decide +kernel
theorem dX0_readOneAnother_80 : decode cX0_readOneAnother 80 = .ok (.aload_n 0, 1) := by decide +kernel
theorem dX0_readOneAnother_81 : decode cX0_readOneAnother 81 = .ok (.aload_n 0, 1) := by decide +kernel
theorem dX0_readOneAnother_82 : decode cX0_readOneAnother 82 = .ok (.getfield 18, 3) := by decide +kernel
theorem dX0_readOneAnother_85 : decode cX0_readOneAnother 85 = .ok (.iload_n 2, 1) := by decide +kernel
theorem dX0_readOneAnother_86 : decode cX0_readOneAnother 86 = .ok (.iaload, 1) := by decide +kernel
theorem dX0_readOneAnother_87 : decode cX0_readOneAnother 87 = .ok (.invokevirtual 116, 3) := by decide +kernel
theorem dX0_readOneAnother_90 : decode cX0_readOneAnother 90 = .ok (.iadd, 1) := by decide +kernel
theorem dX0_readOneAnother_91 : decode cX0_readOneAnother 91 = .ok (.sipush 255, 3) := by decide +kernel
theorem dX0_readOneAnother_94 : decode cX0_readOneAnother 94 = .ok (.iand, 1) := by decide +kernel
theorem dX0_readOneAnother_95 : decode cX0_readOneAnother 95 = .ok (.iastore, 1) := by decide +kernel
theorem dX0_readOneAnother_96 : decode cX0_readOneAnother 96 = .ok (.aload_n 0, 1) := by decide +kernel
theorem dX0_readOneAnother_97 : decode cX0_readOneAnother 97 = .ok (.getfield 33, 3) := by decide +kernel
theorem dX0_readOneAnother_100 : decode cX0_readOneAnother 100 = .ok (.iload_n 2, 1) := by decide +kernel
theorem dX0_readOneAnother_101 : decode cX0_readOneAnother 101 = .ok (.dup2, 1) := by decide +kernel
theorem dX0_readOneAnother_102 : decode cX0_readOneAnother 102 = .ok (.iaload, 1) := by decide +kernel
theorem dX0_readOneAnother_103 : decode cX0_readOneAnother 103 = .ok (.aload_n 0, 1) := by decide +kernel
theorem dX0_readOneAnother_104 : decode cX0_readOneAnother 104 = .ok (.getfield 18, 3) := by decide +kernel
theorem dX0_readOneAnother_107 : decode cX0_readOneAnother 107 = .ok (.iload_n 2, 1) := by decide +kernel
theorem dX0_readOneAnother_108 : decode cX0_readOneAnother 108 = .ok (.iaload, 1) := by decide +kernel
theorem dX0_readOneAnother_109 : decode cX0_readOneAnother 109 = .ok (.iload_n 1, 1) := by decide +kernel
theorem dX0_readOneAnother_110 : decode cX0_readOneAnother 110 = .ok (.iand, 1) := by decide +kernel
theorem dX0_readOneAnother_111 : decode cX0_readOneAnother 111 = .ok (.invokestatic 88, 3) := by decide +kernel
theorem dX0_readOneAnother_114 : decode cX0_readOneAnother 114 = .ok (.iadd, 1) := by decide +kernel
theorem dX0_readOneAnother_115 : decode cX0_readOneAnother 115 = .ok (.iastore, 1) := by decide +kernel
theorem dX0_readOneAnother_116 : decode cX0_readOneAnother 116 = .ok (.iinc 2 1, 3) := by decide +kernel
theorem dX0_readOneAnother_119 : decode cX0_readOneAnother 119 = .ok (.goto (-65), 3) := by decide +kernel
theorem dX0_readOneAnother_122 : decode cX0_readOneAnother 122 = .ok (.return_, 1) := by decide +kernel
theorem dX0_sumTold_0 : decode cX0_sumTold 0 = .ok (.iconst 0, 1) := by decide +kernel
theorem dX0_sumTold_1 : decode cX0_sumTold 1 = .ok (.istore_n 2, 1) := by decide +kernel
theorem dX0_sumTold_2 : decode cX0_sumTold 2 = .ok (.iconst 0, 1) := by decide +kernel
theorem dX0_sumTold_3 : decode cX0_sumTold 3 = .ok (.istore_n 3, 1) := by decide +kernel
theorem dX0_sumTold_4 : decode cX0_sumTold 4 = .ok (.iload_n 3, 1) := by decide +kernel
theorem dX0_sumTold_5 : decode cX0_sumTold 5 = .ok (.bipush 8, 2) := by decide +kernel
theorem dX0_sumTold_7 : decode cX0_sumTold 7 = .ok (.if_icmp .ge 26, 3) := by decide +kernel
theorem dX0_sumTold_10 : decode cX0_sumTold 10 = .ok (.iload_n 1, 1) := by decide +kernel
theorem dX0_sumTold_11 : decode cX0_sumTold 11 = .ok (.iload_n 3, 1) := by decide +kernel
theorem dX0_sumTold_12 : decode cX0_sumTold 12 = .ok (.invokestatic 77, 3) := by decide +kernel
theorem dX0_sumTold_15 : decode cX0_sumTold 15 = .ok (.ifCond .eq 12, 3) := by decide +kernel
theorem dX0_sumTold_18 : decode cX0_sumTold 18 = .ok (.iload_n 2, 1) := by decide +kernel
theorem dX0_sumTold_19 : decode cX0_sumTold 19 = .ok (.aload_n 0, 1) := by decide +kernel
theorem dX0_sumTold_20 : decode cX0_sumTold 20 = .ok (.getfield 39, 3) := by decide +kernel
theorem dX0_sumTold_23 : decode cX0_sumTold 23 = .ok (.iload_n 3, 1) := by decide +kernel
theorem dX0_sumTold_24 : decode cX0_sumTold 24 = .ok (.iaload, 1) := by decide +kernel
theorem dX0_sumTold_25 : decode cX0_sumTold 25 = .ok (.iadd, 1) := by decide +kernel
theorem dX0_sumTold_26 : decode cX0_sumTold 26 = .ok (.istore_n 2, 1) := by decide +kernel
theorem dX0_sumTold_27 : decode cX0_sumTold 27 = .ok (.iinc 3 1, 3) := by decide +kernel
theorem dX0_sumTold_30 : decode cX0_sumTold 30 = .ok (.goto (-26), 3) := by decide +kernel
theorem dX0_sumTold_33 : decode cX0_sumTold 33 = .ok (.iload_n 2, 1) := by decide +kernel
theorem dX0_sumTold_34 : decode cX0_sumTold 34 = .ok (.ireturn, 1) := by decide +kernel
theorem dX0_moveOn_0 : decode cX0_moveOn 0 = .ok (.aload_n 0, 1) := by decide +kernel
theorem dX0_moveOn_1 : decode cX0_moveOn 1 = .ok (.invokevirtual 119, 3) := by decide +kernel
theorem dX0_moveOn_4 : decode cX0_moveOn 4 = .ok (.aload_n 0, 1) := by decide +kernel
theorem dX0_moveOn_5 : decode cX0_moveOn 5 = .ok (.invokevirtual 122, 3) := by decide +kernel
theorem dX0_moveOn_8 : decode cX0_moveOn 8 = .ok (.aload_n 0, 1) := by decide +kernel
theorem dX0_moveOn_9 : decode cX0_moveOn 9 = .ok (.getfield 46, 3) := by decide +kernel
theorem dX0_moveOn_12 : decode cX0_moveOn 12 = .ok (.iconst 1, 1) := by decide +kernel
theorem dX0_moveOn_13 : decode cX0_moveOn 13 = .ok (.if_icmp .ne 7, 3) := by decide +kernel
theorem dX0_moveOn_16 : decode cX0_moveOn 16 = .ok (.aload_n 0, 1) := by decide +kernel
theorem dX0_moveOn_17 : decode cX0_moveOn 17 = .ok (.invokevirtual 125, 3) := by decide +kernel
theorem dX0_moveOn_20 : decode cX0_moveOn 20 = .ok (.aload_n 0, 1) := by decide +kernel
theorem dX0_moveOn_21 : decode cX0_moveOn 21 = .ok (.invokevirtual 128, 3) := by decide +kernel
theorem dX0_moveOn_24 : decode cX0_moveOn 24 = .ok (.return_, 1) := by decide +kernel
theorem dX0_endFalling_0 : decode cX0_endFalling 0 = .ok (.iconst 0, 1) := by decide +kernel
theorem dX0_endFalling_1 : decode cX0_endFalling 1 = .ok (.istore_n 1, 1) := by decide +kernel
theorem dX0_endFalling_2 : decode cX0_endFalling 2 = .ok (.iload_n 1, 1) := by decide +kernel
theorem dX0_endFalling_3 : decode cX0_endFalling 3 = .ok (.bipush 8, 2) := by decide +kernel
theorem dX0_endFalling_5 : decode cX0_endFalling 5 = .ok (.if_icmp .ge 31, 3) := by decide +kernel
theorem dX0_endFalling_8 : decode cX0_endFalling 8 = .ok (.aload_n 0, 1) := by decide +kernel
theorem dX0_endFalling_9 : decode cX0_endFalling 9 = .ok (.getfield 21, 3) := by decide +kernel
theorem dX0_endFalling_12 : decode cX0_endFalling 12 = .ok (.iload_n 1, 1) := by decide +kernel
theorem dX0_endFalling_13 : decode cX0_endFalling 13 = .ok (.iaload, 1) := by decide +kernel
theorem dX0_endFalling_14 : decode cX0_endFalling 14 = .ok (.iconst 1, 1) := by decide +kernel
theorem dX0_endFalling_15 : decode cX0_endFalling 15 = .ok (.if_icmp .ne 15, 3) := by decide +kernel
theorem dX0_endFalling_18 : decode cX0_endFalling 18 = .ok (.aload_n 0, 1) := by decide +kernel
theorem dX0_endFalling_19 : decode cX0_endFalling 19 = .ok (.getfield 21, 3) := by decide +kernel
theorem dX0_endFalling_22 : decode cX0_endFalling 22 = .ok (.iload_n 1, 1) := by decide +kernel
theorem dX0_endFalling_23 : decode cX0_endFalling 23 = .ok (.iconst 2, 1) := by decide +kernel
theorem dX0_endFalling_24 : decode cX0_endFalling 24 = .ok (.iastore, 1) := by decide +kernel
theorem dX0_endFalling_25 : decode cX0_endFalling 25 = .ok (.aload_n 0, 1) := by decide +kernel
theorem dX0_endFalling_26 : decode cX0_endFalling 26 = .ok (.iload_n 1, 1) := by decide +kernel
theorem dX0_endFalling_27 : decode cX0_endFalling 27 = .ok (.invokevirtual 131, 3) := by decide +kernel
theorem dX0_endFalling_30 : decode cX0_endFalling 30 = .ok (.iinc 1 1, 3) := by decide +kernel
theorem dX0_endFalling_33 : decode cX0_endFalling 33 = .ok (.goto (-31), 3) := by decide +kernel
theorem dX0_endFalling_36 : decode cX0_endFalling 36 = .ok (.return_, 1) := by decide +kernel
theorem dX0_keepOrLose_0 : decode cX0_keepOrLose 0 = .ok (.iload_n 1, 1) := by decide +kernel
theorem dX0_keepOrLose_1 : decode cX0_keepOrLose 1 = .ok (.invokestatic 73, 3) := by decide +kernel
theorem dX0_keepOrLose_4 : decode cX0_keepOrLose 4 = .ok (.ifCond .ne 4, 3) := by decide +kernel
theorem dX0_keepOrLose_7 : decode cX0_keepOrLose 7 = .ok (.return_, 1) := by decide +kernel
theorem dX0_keepOrLose_8 : decode cX0_keepOrLose 8 = .ok (.aload_n 0, 1) := by decide +kernel
theorem dX0_keepOrLose_9 : decode cX0_keepOrLose 9 = .ok (.getfield 58, 3) := by decide +kernel
theorem dX0_keepOrLose_12 : decode cX0_keepOrLose 12 = .ok (.iload_n 1, 1) := by decide +kernel
theorem dX0_keepOrLose_13 : decode cX0_keepOrLose 13 = .ok (.invokestatic 77, 3) := by decide +kernel
theorem dX0_keepOrLose_16 : decode cX0_keepOrLose 16 = .ok (.ifCond .eq 18, 3) := by decide +kernel
theorem dX0_keepOrLose_19 : decode cX0_keepOrLose 19 = .ok (.aload_n 0, 1) := by decide +kernel
theorem dX0_keepOrLose_20 : decode cX0_keepOrLose 20 = .ok (.getfield 27, 3) := by decide +kernel
theorem dX0_keepOrLose_23 : decode cX0_keepOrLose 23 = .ok (.iload_n 1, 1) := by decide +kernel
theorem dX0_keepOrLose_24 : decode cX0_keepOrLose 24 = .ok (.aload_n 0, 1) := by decide +kernel
theorem dX0_keepOrLose_25 : decode cX0_keepOrLose 25 = .ok (.getfield 24, 3) := by decide +kernel
theorem dX0_keepOrLose_28 : decode cX0_keepOrLose 28 = .ok (.iload_n 1, 1) := by decide +kernel
theorem dX0_keepOrLose_29 : decode cX0_keepOrLose 29 = .ok (.iaload, 1) := by decide +kernel
theorem dX0_keepOrLose_30 : decode cX0_keepOrLose 30 = .ok (.iastore, 1) := by decide +kernel
theorem dX0_keepOrLose_31 : decode cX0_keepOrLose 31 = .ok (.goto 22, 3) := by decide +kernel
theorem dX0_keepOrLose_34 : decode cX0_keepOrLose 34 = .ok (.aload_n 0, 1) := by decide +kernel
theorem dX0_keepOrLose_35 : decode cX0_keepOrLose 35 = .ok (.getfield 24, 3) := by decide +kernel
theorem dX0_keepOrLose_38 : decode cX0_keepOrLose 38 = .ok (.iload_n 1, 1) := by decide +kernel
theorem dX0_keepOrLose_39 : decode cX0_keepOrLose 39 = .ok (.iaload, 1) := by decide +kernel
theorem dX0_keepOrLose_40 : decode cX0_keepOrLose 40 = .ok (.ifCond .le 13, 3) := by decide +kernel
theorem dX0_keepOrLose_43 : decode cX0_keepOrLose 43 = .ok (.aload_n 0, 1) := by decide +kernel
theorem dX0_keepOrLose_44 : decode cX0_keepOrLose 44 = .ok (.dup, 1) := by decide +kernel
theorem dX0_keepOrLose_45 : decode cX0_keepOrLose 45 = .ok (.getfield 67, 3) := by decide +kernel
theorem dX0_keepOrLose_48 : decode cX0_keepOrLose 48 = .ok (.iconst 1, 1) := by decide +kernel
theorem dX0_keepOrLose_49 : decode cX0_keepOrLose 49 = .ok (.iadd, 1) := by decide +kernel
theorem dX0_keepOrLose_50 : decode cX0_keepOrLose 50 = .ok (.putfield 67, 3) := by decide +kernel
theorem dX0_keepOrLose_53 : decode cX0_keepOrLose 53 = .ok (.aload_n 0, 1) := by decide +kernel
theorem dX0_keepOrLose_54 : decode cX0_keepOrLose 54 = .ok (.getfield 24, 3) := by decide +kernel
theorem dX0_keepOrLose_57 : decode cX0_keepOrLose 57 = .ok (.iload_n 1, 1) := by decide +kernel
theorem dX0_keepOrLose_58 : decode cX0_keepOrLose 58 = .ok (.iconst 0, 1) := by decide +kernel
theorem dX0_keepOrLose_59 : decode cX0_keepOrLose 59 = .ok (.iastore, 1) := by decide +kernel
theorem dX0_keepOrLose_60 : decode cX0_keepOrLose 60 = .ok (.return_, 1) := by decide +kernel
theorem dX0_goOnRising_0 : decode cX0_goOnRising 0 = .ok (.iconst 0, 1) := by decide +kernel
theorem dX0_goOnRising_1 : decode cX0_goOnRising 1 = .ok (.istore_n 1, 1) := by decide +kernel
theorem dX0_goOnRising_2 : decode cX0_goOnRising 2 = .ok (.iload_n 1, 1) := by decide +kernel
theorem dX0_goOnRising_3 : decode cX0_goOnRising 3 = .ok (.bipush 8, 2) := by decide +kernel
theorem dX0_goOnRising_5 : decode cX0_goOnRising 5 = .ok (.if_icmp .ge 43, 3) := by decide +kernel
theorem dX0_goOnRising_8 : decode cX0_goOnRising 8 = .ok (.aload_n 0, 1) := by decide +kernel
theorem dX0_goOnRising_9 : decode cX0_goOnRising 9 = .ok (.getfield 21, 3) := by decide +kernel
theorem dX0_goOnRising_12 : decode cX0_goOnRising 12 = .ok (.iload_n 1, 1) := by decide +kernel
theorem dX0_goOnRising_13 : decode cX0_goOnRising 13 = .ok (.iaload, 1) := by decide +kernel
theorem dX0_goOnRising_14 : decode cX0_goOnRising 14 = .ok (.iconst 4, 1) := by decide +kernel
theorem dX0_goOnRising_15 : decode cX0_goOnRising 15 = .ok (.if_icmp .ne 27, 3) := by decide +kernel
theorem dX0_goOnRising_18 : decode cX0_goOnRising 18 = .ok (.aload_n 0, 1) := by decide +kernel
theorem dX0_goOnRising_19 : decode cX0_goOnRising 19 = .ok (.getfield 30, 3) := by decide +kernel
theorem dX0_goOnRising_22 : decode cX0_goOnRising 22 = .ok (.iload_n 1, 1) := by decide +kernel
theorem dX0_goOnRising_23 : decode cX0_goOnRising 23 = .ok (.dup2, 1) := by decide +kernel
theorem dX0_goOnRising_24 : decode cX0_goOnRising 24 = .ok (.iaload, 1) := by decide +kernel
theorem dX0_goOnRising_25 : decode cX0_goOnRising 25 = .ok (.iconst 1, 1) := by decide +kernel
theorem dX0_goOnRising_26 : decode cX0_goOnRising 26 = .ok (.isub, 1) := by decide +kernel
theorem dX0_goOnRising_27 : decode cX0_goOnRising 27 = .ok (.iastore, 1) := by decide +kernel
theorem dX0_goOnRising_28 : decode cX0_goOnRising 28 = .ok (.aload_n 0, 1) := by decide +kernel
theorem dX0_goOnRising_29 : decode cX0_goOnRising 29 = .ok (.getfield 30, 3) := by decide +kernel
theorem dX0_goOnRising_32 : decode cX0_goOnRising 32 = .ok (.iload_n 1, 1) := by decide +kernel
theorem dX0_goOnRising_33 : decode cX0_goOnRising 33 = .ok (.iaload, 1) := by decide +kernel
theorem dX0_goOnRising_34 : decode cX0_goOnRising 34 = .ok (.ifCond .gt 8, 3) := by decide +kernel
theorem dX0_goOnRising_37 : decode cX0_goOnRising 37 = .ok (.aload_n 0, 1) := by decide +kernel
theorem dX0_goOnRising_38 : decode cX0_goOnRising 38 = .ok (.iload_n 1, 1) := by decide +kernel
theorem dX0_goOnRising_39 : decode cX0_goOnRising 39 = .ok (.invokevirtual 134, 3) := by decide +kernel
theorem dX0_goOnRising_42 : decode cX0_goOnRising 42 = .ok (.iinc 1 1, 3) := by decide +kernel
theorem dX0_goOnRising_45 : decode cX0_goOnRising 45 = .ok (.goto (-43), 3) := by decide +kernel
theorem dX0_goOnRising_48 : decode cX0_goOnRising 48 = .ok (.return_, 1) := by decide +kernel
theorem dX0_endRising_0 : decode cX0_endRising 0 = .ok (.iload_n 1, 1) := by decide +kernel
theorem dX0_endRising_1 : decode cX0_endRising 1 = .ok (.invokestatic 73, 3) := by decide +kernel
theorem dX0_endRising_4 : decode cX0_endRising 4 = .ok (.ifCond .ne 4, 3) := by decide +kernel
theorem dX0_endRising_7 : decode cX0_endRising 7 = .ok (.return_, 1) := by decide +kernel
theorem dX0_endRising_8 : decode cX0_endRising 8 = .ok (.aload_n 0, 1) := by decide +kernel
theorem dX0_endRising_9 : decode cX0_endRising 9 = .ok (.getfield 21, 3) := by decide +kernel
theorem dX0_endRising_12 : decode cX0_endRising 12 = .ok (.iload_n 1, 1) := by decide +kernel
theorem dX0_endRising_13 : decode cX0_endRising 13 = .ok (.iconst 0, 1) := by decide +kernel
theorem dX0_endRising_14 : decode cX0_endRising 14 = .ok (.iastore, 1) := by decide +kernel
theorem dX0_endRising_15 : decode cX0_endRising 15 = .ok (.aload_n 0, 1) := by decide +kernel
theorem dX0_endRising_16 : decode cX0_endRising 16 = .ok (.getfield 58, 3) := by decide +kernel
theorem dX0_endRising_19 : decode cX0_endRising 19 = .ok (.iload_n 1, 1) := by decide +kernel
theorem dX0_endRising_20 : decode cX0_endRising 20 = .ok (.invokestatic 77, 3) := by decide +kernel
theorem dX0_endRising_23 : decode cX0_endRising 23 = .ok (.ifCond .eq 15, 3) := by decide +kernel
theorem dX0_endRising_26 : decode cX0_endRising 26 = .ok (.aload_n 0, 1) := by decide +kernel
theorem dX0_endRising_27 : decode cX0_endRising 27 = .ok (.getfield 24, 3) := by decide +kernel
theorem dX0_endRising_30 : decode cX0_endRising 30 = .ok (.iload_n 1, 1) := by decide +kernel
theorem dX0_endRising_31 : decode cX0_endRising 31 = .ok (.aload_n 0, 1) := by decide +kernel
theorem dX0_endRising_32 : decode cX0_endRising 32 = .ok (.getfield 27, 3) := by decide +kernel
theorem dX0_endRising_35 : decode cX0_endRising 35 = .ok (.iload_n 1, 1) := by decide +kernel
theorem dX0_endRising_36 : decode cX0_endRising 36 = .ok (.iaload, 1) := by decide +kernel
theorem dX0_endRising_37 : decode cX0_endRising 37 = .ok (.iastore, 1) := by decide +kernel
theorem dX0_endRising_38 : decode cX0_endRising 38 = .ok (.return_, 1) := by decide +kernel
theorem dX0_askForSleepers_0 : decode cX0_askForSleepers 0 = .ok (.iconst 0, 1) := by decide +kernel
theorem dX0_askForSleepers_1 : decode cX0_askForSleepers 1 = .ok (.istore_n 1, 1) := by decide +kernel
theorem dX0_askForSleepers_2 : decode cX0_askForSleepers 2 = .ok (.iconst 0, 1) := by decide +kernel
theorem dX0_askForSleepers_3 : decode cX0_askForSleepers 3 = .ok (.istore_n 2, 1) := by decide +kernel
theorem dX0_askForSleepers_4 : decode cX0_askForSleepers 4 = .ok (.iload_n 2, 1) := by decide +kernel
theorem dX0_askForSleepers_5 : decode cX0_askForSleepers 5 = .ok (.bipush 8, 2) := by decide +kernel
theorem dX0_askForSleepers_7 : decode cX0_askForSleepers 7 = .ok (.if_icmp .ge 27, 3) := by decide +kernel
theorem dX0_askForSleepers_10 : decode cX0_askForSleepers 10 = .ok (.aload_n 0, 1) := by decide +kernel
theorem dX0_askForSleepers_11 : decode cX0_askForSleepers 11 = .ok (.getfield 21, 3) := by decide +kernel
theorem dX0_askForSleepers_14 : decode cX0_askForSleepers 14 = .ok (.iload_n 2, 1) := by decide +kernel
theorem dX0_askForSleepers_15 : decode cX0_askForSleepers 15 = .ok (.iaload, 1) := by decide +kernel
theorem dX0_askForSleepers_16 : decode cX0_askForSleepers 16 = .ok (.ifCond .ne 12, 3) := by decide +kernel
theorem dX0_askForSleepers_19 : decode cX0_askForSleepers 19 = .ok (.iload_n 1, 1) := by decide +kernel
theorem dX0_askForSleepers_20 : decode cX0_askForSleepers 20 = .ok (.aload_n 0, 1) := by decide +kernel
theorem dX0_askForSleepers_21 : decode cX0_askForSleepers 21 = .ok (.getfield 18, 3) := by decide +kernel
theorem dX0_askForSleepers_24 : decode cX0_askForSleepers 24 = .ok (.iload_n 2, 1) := by decide +kernel
theorem dX0_askForSleepers_25 : decode cX0_askForSleepers 25 = .ok (.iaload, 1) := by decide +kernel
theorem dX0_askForSleepers_26 : decode cX0_askForSleepers 26 = .ok (.ior, 1) := by decide +kernel
theorem dX0_askForSleepers_27 : decode cX0_askForSleepers 27 = .ok (.istore_n 1, 1) := by decide +kernel
theorem dX0_askForSleepers_28 : decode cX0_askForSleepers 28 = .ok (.iinc 2 1, 3) := by decide +kernel
theorem dX0_askForSleepers_31 : decode cX0_askForSleepers 31 = .ok (.goto (-27), 3) := by decide +kernel
theorem dX0_askForSleepers_34 : decode cX0_askForSleepers 34 = .ok (.iconst 0, 1) := by decide +kernel
theorem dX0_askForSleepers_35 : decode cX0_askForSleepers 35 = .ok (.istore_n 2, 1) := by decide +kernel
theorem dX0_askForSleepers_36 : decode cX0_askForSleepers 36 = .ok (.iload_n 2, 1) := by decide +kernel
theorem dX0_askForSleepers_37 : decode cX0_askForSleepers 37 = .ok (.bipush 8, 2) := by decide +kernel
theorem dX0_askForSleepers_39 : decode cX0_askForSleepers 39 = .ok (.if_icmp .ge 32, 3) := by decide +kernel
theorem dX0_askForSleepers_42 : decode cX0_askForSleepers 42 = .ok (.aload_n 0, 1) := by decide +kernel
theorem dX0_askForSleepers_43 : decode cX0_askForSleepers 43 = .ok (.getfield 21, 3) := by decide +kernel
theorem dX0_askForSleepers_46 : decode cX0_askForSleepers 46 = .ok (.iload_n 2, 1) := by decide +kernel
theorem dX0_askForSleepers_47 : decode cX0_askForSleepers 47 = .ok (.iaload, 1) := by decide +kernel
theorem dX0_askForSleepers_48 : decode cX0_askForSleepers 48 = .ok (.iconst 2, 1) := by decide +kernel
theorem dX0_askForSleepers_49 : decode cX0_askForSleepers 49 = .ok (.if_icmp .ne 16, 3) := by decide +kernel
theorem dX0_askForSleepers_52 : decode cX0_askForSleepers 52 = .ok (.iload_n 1, 1) := by decide +kernel
theorem dX0_askForSleepers_53 : decode cX0_askForSleepers 53 = .ok (.iload_n 2, 1) := by decide +kernel
theorem dX0_askForSleepers_54 : decode cX0_askForSleepers 54 = .ok (.invokestatic 77, 3) := by decide +kernel
theorem dX0_askForSleepers_57 : decode cX0_askForSleepers 57 = .ok (.ifCond .eq 8, 3) := by decide +kernel
theorem dX0_askForSleepers_60 : decode cX0_askForSleepers 60 = .ok (.aload_n 0, 1) := by decide +kernel
theorem dX0_askForSleepers_61 : decode cX0_askForSleepers 61 = .ok (.iload_n 2, 1) := by decide +kernel
theorem dX0_askForSleepers_62 : decode cX0_askForSleepers 62 = .ok (.invokevirtual 93, 3) := by decide +kernel
theorem dX0_askForSleepers_65 : decode cX0_askForSleepers 65 = .ok (.iinc 2 1, 3) := by decide +kernel
theorem dX0_askForSleepers_68 : decode cX0_askForSleepers 68 = .ok (.goto (-32), 3) := by decide +kernel
theorem dX0_askForSleepers_71 : decode cX0_askForSleepers 71 = .ok (.return_, 1) := by decide +kernel
theorem dX0_beginRising_0 : decode cX0_beginRising 0 = .ok (.aload_n 0, 1) := by decide +kernel
theorem dX0_beginRising_1 : decode cX0_beginRising 1 = .ok (.invokevirtual 103, 3) := by decide +kernel
theorem dX0_beginRising_4 : decode cX0_beginRising 4 = .ok (.istore_n 1, 1) := by decide +kernel
theorem dX0_beginRising_5 : decode cX0_beginRising 5 = .ok (.iconst 0, 1) := by decide +kernel
theorem dX0_beginRising_6 : decode cX0_beginRising 6 = .ok (.istore_n 2, 1) := by decide +kernel
theorem dX0_beginRising_7 : decode cX0_beginRising 7 = .ok (.iconst 0, 1) := by decide +kernel
theorem dX0_beginRising_8 : decode cX0_beginRising 8 = .ok (.istore_n 3, 1) := by decide +kernel
theorem dX0_beginRising_9 : decode cX0_beginRising 9 = .ok (.iload_n 3, 1) := by decide +kernel
theorem dX0_beginRising_10 : decode cX0_beginRising 10 = .ok (.bipush 8, 2) := by decide +kernel
theorem dX0_beginRising_12 : decode cX0_beginRising 12 = .ok (.if_icmp .ge 109, 3) := by decide +kernel
theorem dX0_beginRising_15 : decode cX0_beginRising 15 = .ok (.iload_n 3, 1) := by decide +kernel
theorem dX0_beginRising_16 : decode cX0_beginRising 16 = .ok (.aload_n 0, 1) := by decide +kernel
theorem dX0_beginRising_17 : decode cX0_beginRising 17 = .ok (.getfield 61, 3) := by decide +kernel
theorem dX0_beginRising_20 : decode cX0_beginRising 20 = .ok (.if_icmp .ge 101, 3) := by decide +kernel
theorem dX0_beginRising_23 : decode cX0_beginRising 23 = .ok (.aload_n 0, 1) := by decide +kernel
theorem dX0_beginRising_24 : decode cX0_beginRising 24 = .ok (.getfield 36, 3) := by decide +kernel
theorem dX0_beginRising_27 : decode cX0_beginRising 27 = .ok (.iload_n 3, 1) := by decide +kernel
theorem dX0_beginRising_28 : decode cX0_beginRising 28 = .ok (.iaload, 1) := by decide +kernel
theorem dX0_beginRising_29 : decode cX0_beginRising 29 = .ok (.istore 4, 2) := by decide +kernel
theorem dX0_beginRising_31 : decode cX0_beginRising 31 = .ok (.iload 4, 2) := by decide +kernel
theorem dX0_beginRising_33 : decode cX0_beginRising 33 = .ok (.invokestatic 73, 3) := by decide +kernel
theorem dX0_beginRising_36 : decode cX0_beginRising 36 = .ok (.ifCond .ne 6, 3) := by decide +kernel
theorem dX0_beginRising_39 : decode cX0_beginRising 39 = .ok (.goto 76, 3) := by decide +kernel
theorem dX0_beginRising_42 : decode cX0_beginRising 42 = .ok (.iload_n 1, 1) := by decide +kernel
theorem dX0_beginRising_43 : decode cX0_beginRising 43 = .ok (.ifCond .eq 19, 3) := by decide +kernel
theorem dX0_beginRising_46 : decode cX0_beginRising 46 = .ok (.iload_n 1, 1) := by decide +kernel
theorem dX0_beginRising_47 : decode cX0_beginRising 47 = .ok (.aload_n 0, 1) := by decide +kernel
theorem dX0_beginRising_48 : decode cX0_beginRising 48 = .ok (.getfield 15, 3) := by decide +kernel
theorem dX0_beginRising_51 : decode cX0_beginRising 51 = .ok (.iload 4, 2) := by decide +kernel
theorem dX0_beginRising_53 : decode cX0_beginRising 53 = .ok (.iaload, 1) := by decide +kernel
theorem dX0_beginRising_54 : decode cX0_beginRising 54 = .ok (.iadd, 1) := by decide +kernel
theorem dX0_beginRising_55 : decode cX0_beginRising 55 = .ok (.aload_n 0, 1) := by decide +kernel
theorem dX0_beginRising_56 : decode cX0_beginRising 56 = .ok (.getfield 42, 3) := by decide +kernel
theorem dX0_beginRising_59 : decode cX0_beginRising 59 = .ok (.if_icmp .gt 38, 3) := by decide +kernel
theorem dX0_beginRising_62 : decode cX0_beginRising 62 = .ok (.iload_n 1, 1) := by decide +kernel
theorem dX0_beginRising_63 : decode cX0_beginRising 63 = .ok (.aload_n 0, 1) := by decide +kernel
theorem dX0_beginRising_64 : decode cX0_beginRising 64 = .ok (.getfield 15, 3) := by decide +kernel
theorem dX0_beginRising_67 : decode cX0_beginRising 67 = .ok (.iload 4, 2) := by decide +kernel
theorem dX0_beginRising_69 : decode cX0_beginRising 69 = .ok (.iaload, 1) := by decide +kernel
theorem dX0_beginRising_70 : decode cX0_beginRising 70 = .ok (.iadd, 1) := by decide +kernel
theorem dX0_beginRising_71 : decode cX0_beginRising 71 = .ok (.istore_n 1, 1) := by decide +kernel
theorem dX0_beginRising_72 : decode cX0_beginRising 72 = .ok (.aload_n 0, 1) := by decide +kernel
theorem dX0_beginRising_73 : decode cX0_beginRising 73 = .ok (.getfield 21, 3) := by decide +kernel
theorem dX0_beginRising_76 : decode cX0_beginRising 76 = .ok (.iload 4, 2) := by decide +kernel
theorem dX0_beginRising_78 : decode cX0_beginRising 78 = .ok (.iconst 4, 1) := by decide +kernel
theorem dX0_beginRising_79 : decode cX0_beginRising 79 = .ok (.iastore, 1) := by decide +kernel
theorem dX0_beginRising_80 : decode cX0_beginRising 80 = .ok (.aload_n 0, 1) := by decide +kernel
theorem dX0_beginRising_81 : decode cX0_beginRising 81 = .ok (.getfield 30, 3) := by decide +kernel
theorem dX0_beginRising_84 : decode cX0_beginRising 84 = .ok (.iload 4, 2) := by decide +kernel
theorem dX0_beginRising_86 : decode cX0_beginRising 86 = .ok (.aload_n 0, 1) := by decide +kernel
theorem dX0_beginRising_87 : decode cX0_beginRising 87 = .ok (.getfield 9, 3) := by decide +kernel
theorem dX0_beginRising_90 : decode cX0_beginRising 90 = .ok (.iload 4, 2) := by decide +kernel
theorem dX0_beginRising_92 : decode cX0_beginRising 92 = .ok (.iaload, 1) := by decide +kernel
theorem dX0_beginRising_93 : decode cX0_beginRising 93 = .ok (.iastore, 1) := by decide +kernel
theorem dX0_beginRising_94 : decode cX0_beginRising 94 = .ok (.goto 21, 3) := by decide +kernel
theorem dX0_beginRising_97 : decode cX0_beginRising 97 = .ok (.iload_n 2, 1) := by decide +kernel
theorem dX0_beginRising_98 : decode cX0_beginRising 98 = .ok (.invokestatic 73, 3) := by decide +kernel
theorem dX0_beginRising_101 : decode cX0_beginRising 101 = .ok (.ifCond .eq 14, 3) := by decide +kernel
theorem dX0_beginRising_104 : decode cX0_beginRising 104 = .ok (.aload_n 0, 1) := by decide +kernel
theorem dX0_beginRising_105 : decode cX0_beginRising 105 = .ok (.getfield 36, 3) := by decide +kernel
theorem dX0_beginRising_108 : decode cX0_beginRising 108 = .ok (.iload_n 2, 1) := by decide +kernel
theorem dX0_beginRising_109 : decode cX0_beginRising 109 = .ok (.iload 4, 2) := by decide +kernel
theorem dX0_beginRising_111 : decode cX0_beginRising 111 = .ok (.iastore, 1) := by decide +kernel
theorem dX0_beginRising_112 : decode cX0_beginRising 112 = .ok (.iinc 2 1, 3) := by decide +kernel
theorem dX0_beginRising_115 : decode cX0_beginRising 115 = .ok (.iinc 3 1, 3) := by decide +kernel
theorem dX0_beginRising_118 : decode cX0_beginRising 118 = .ok (.goto (-109), 3) := by decide +kernel
theorem dX0_beginRising_121 : decode cX0_beginRising 121 = .ok (.aload_n 0, 1) := by decide +kernel
theorem dX0_beginRising_122 : decode cX0_beginRising 122 = .ok (.iload_n 2, 1) := by decide +kernel
theorem dX0_beginRising_123 : decode cX0_beginRising 123 = .ok (.putfield 61, 3) := by decide +kernel
theorem dX0_beginRising_126 : decode cX0_beginRising 126 = .ok (.return_, 1) := by decide +kernel
end
section
theorem dX1_init_0 : decode cX1_init 0 = .ok (.aload_n 0, 1) := by decide +kernel
theorem dX1_init_1 : decode cX1_init 1 = .ok (.invokespecial 3, 3) := by decide +kernel
theorem dX1_init_4 : decode cX1_init 4 = .ok (.aload_n 0, 1) := by decide +kernel
theorem dX1_init_5 : decode cX1_init 5 = .ok (.new 9, 3) := by decide +kernel
theorem dX1_init_8 : decode cX1_init 8 = .ok (.dup, 1) := by decide +kernel
theorem dX1_init_9 : decode cX1_init 9 = .ok (.invokespecial 11, 3) := by decide +kernel
theorem dX1_init_12 : decode cX1_init 12 = .ok (.putfield 12, 3) := by decide +kernel
theorem dX1_init_15 : decode cX1_init 15 = .ok (.aload_n 0, 1) := by decide +kernel
theorem dX1_init_16 : decode cX1_init 16 = .ok (.invokevirtual 18, 3) := by decide +kernel
theorem dX1_init_19 : decode cX1_init 19 = .ok (.return_, 1) := by decide +kernel
theorem dX1_findFault_0 : decode cX1_findFault 0 = .ok (.aload_n 0, 1) := by decide +kernel
theorem dX1_findFault_1 : decode cX1_findFault 1 = .ok (.getfield 12, 3) := by decide +kernel
theorem dX1_findFault_4 : decode cX1_findFault 4 = .ok (.invokevirtual 21, 3) := by decide +kernel
theorem dX1_findFault_7 : decode cX1_findFault 7 = .ok (.aload_n 0, 1) := by decide +kernel
theorem dX1_findFault_8 : decode cX1_findFault 8 = .ok (.invokevirtual 18, 3) := by decide +kernel
theorem dX1_findFault_11 : decode cX1_findFault 11 = .ok (.iconst 0, 1) := by decide +kernel
theorem dX1_findFault_12 : decode cX1_findFault 12 = .ok (.istore_n 2, 1) := by decide +kernel
theorem dX1_findFault_13 : decode cX1_findFault 13 = .ok (.iload_n 2, 1) := by decide +kernel
theorem dX1_findFault_14 : decode cX1_findFault 14 = .ok (.bipush 64, 2) := by decide +kernel
theorem dX1_findFault_16 : decode cX1_findFault 16 = .ok (.if_icmp .ge 32, 3) := by decide +kernel
theorem dX1_findFault_19 : decode cX1_findFault 19 = .ok (.iload_n 2, 1) := by decide +kernel
theorem dX1_findFault_20 : decode cX1_findFault 20 = .ok (.aload_n 1, 1) := by decide +kernel
theorem dX1_findFault_21 : decode cX1_findFault 21 = .ok (.getfield 24, 3) := by decide +kernel
theorem dX1_findFault_24 : decode cX1_findFault 24 = .ok (.if_icmp .ge 24, 3) := by decide +kernel
theorem dX1_findFault_27 : decode cX1_findFault 27 = .ok (.aload_n 0, 1) := by decide +kernel
theorem dX1_findFault_28 : decode cX1_findFault 28 = .ok (.aload_n 1, 1) := by decide +kernel
theorem dX1_findFault_29 : decode cX1_findFault 29 = .ok (.getfield 30, 3) := by decide +kernel
theorem dX1_findFault_32 : decode cX1_findFault 32 = .ok (.iload_n 2, 1) := by decide +kernel
theorem dX1_findFault_33 : decode cX1_findFault 33 = .ok (.caload, 1) := by decide +kernel
theorem dX1_findFault_34 : decode cX1_findFault 34 = .ok (.invokevirtual 34, 3) := by decide +kernel
theorem dX1_findFault_37 : decode cX1_findFault 37 = .ok (.ifCond .ne 5, 3) := by decide +kernel
theorem dX1_findFault_40 : decode cX1_findFault 40 = .ok (.iload_n 2, 1) := by decide +kernel
theorem dX1_findFault_41 : decode cX1_findFault 41 = .ok (.ireturn, 1) := by decide +kernel
theorem dX1_findFault_42 : decode cX1_findFault 42 = .ok (.iinc 2 1, 3) := by decide +kernel
theorem dX1_findFault_45 : decode cX1_findFault 45 = .ok (.goto (-32), 3) := by decide +kernel
theorem dX1_findFault_48 : decode cX1_findFault 48 = .ok (.aload_n 0, 1) := by decide +kernel
theorem dX1_findFault_49 : decode cX1_findFault 49 = .ok (.getfield 38, 3) := by decide +kernel
theorem dX1_findFault_52 : decode cX1_findFault 52 = .ok (.iconst 5, 1) := by decide +kernel
theorem dX1_findFault_53 : decode cX1_findFault 53 = .ok (.if_icmp .eq 17, 3) := by decide +kernel
theorem dX1_findFault_56 : decode cX1_findFault 56 = .ok (.aload_n 0, 1) := by decide +kernel
theorem dX1_findFault_57 : decode cX1_findFault 57 = .ok (.getfield 38, 3) := by decide +kernel
theorem dX1_findFault_60 : decode cX1_findFault 60 = .ok (.bipush 7, 2) := by decide +kernel
theorem dX1_findFault_62 : decode cX1_findFault 62 = .ok (.if_icmp .eq 8, 3) := by decide +kernel
theorem dX1_findFault_65 : decode cX1_findFault 65 = .ok (.aload_n 1, 1) := by decide +kernel
theorem dX1_findFault_66 : decode cX1_findFault 66 = .ok (.getfield 24, 3) := by decide +kernel
theorem dX1_findFault_69 : decode cX1_findFault 69 = .ok (.ireturn, 1) := by decide +kernel
theorem dX1_findFault_70 : decode cX1_findFault 70 = .ok (.aload_n 0, 1) := by decide +kernel
theorem dX1_findFault_71 : decode cX1_findFault 71 = .ok (.invokevirtual 41, 3) := by decide +kernel
theorem dX1_findFault_74 : decode cX1_findFault 74 = .ok (.bipush (-6), 2) := by decide +kernel
theorem dX1_findFault_76 : decode cX1_findFault 76 = .ok (.ireturn, 1) := by decide +kernel
theorem dX1_beginIsland_0 : decode cX1_beginIsland 0 = .ok (.aload_n 0, 1) := by decide +kernel
theorem dX1_beginIsland_1 : decode cX1_beginIsland 1 = .ok (.iconst 0, 1) := by decide +kernel
theorem dX1_beginIsland_2 : decode cX1_beginIsland 2 = .ok (.putfield 38, 3) := by decide +kernel
theorem dX1_beginIsland_5 : decode cX1_beginIsland 5 = .ok (.aload_n 0, 1) := by decide +kernel
theorem dX1_beginIsland_6 : decode cX1_beginIsland 6 = .ok (.iconst 0, 1) := by decide +kernel
theorem dX1_beginIsland_7 : decode cX1_beginIsland 7 = .ok (.putfield 44, 3) := by decide +kernel
theorem dX1_beginIsland_10 : decode cX1_beginIsland 10 = .ok (.aload_n 0, 1) := by decide +kernel
theorem dX1_beginIsland_11 : decode cX1_beginIsland 11 = .ok (.iconst 0, 1) := by decide +kernel
theorem dX1_beginIsland_12 : decode cX1_beginIsland 12 = .ok (.putfield 48, 3) := by decide +kernel
theorem dX1_beginIsland_15 : decode cX1_beginIsland 15 = .ok (.aload_n 0, 1) := by decide +kernel
theorem dX1_beginIsland_16 : decode cX1_beginIsland 16 = .ok (.iconst 0, 1) := by decide +kernel
theorem dX1_beginIsland_17 : decode cX1_beginIsland 17 = .ok (.putfield 51, 3) := by decide +kernel
theorem dX1_beginIsland_20 : decode cX1_beginIsland 20 = .ok (.aload_n 0, 1) := by decide +kernel
theorem dX1_beginIsland_21 : decode cX1_beginIsland 21 = .ok (.iconst 0, 1) := by decide +kernel
theorem dX1_beginIsland_22 : decode cX1_beginIsland 22 = .ok (.putfield 54, 3) := by decide +kernel
theorem dX1_beginIsland_25 : decode cX1_beginIsland 25 = .ok (.aload_n 0, 1) := by decide +kernel
theorem dX1_beginIsland_26 : decode cX1_beginIsland 26 = .ok (.iconst 0, 1) := by decide +kernel
theorem dX1_beginIsland_27 : decode cX1_beginIsland 27 = .ok (.putfield 57, 3) := by decide +kernel
theorem dX1_beginIsland_30 : decode cX1_beginIsland 30 = .ok (.return_, 1) := by decide +kernel
theorem dX1_endIsland_0 : decode cX1_endIsland 0 = .ok (.aload_n 0, 1) := by decide +kernel
theorem dX1_endIsland_1 : decode cX1_endIsland 1 = .ok (.getfield 12, 3) := by decide +kernel
theorem dX1_endIsland_4 : decode cX1_endIsland 4 = .ok (.aload_n 0, 1) := by decide +kernel
theorem dX1_endIsland_5 : decode cX1_endIsland 5 = .ok (.getfield 44, 3) := by decide +kernel
theorem dX1_endIsland_8 : decode cX1_endIsland 8 = .ok (.aload_n 0, 1) := by decide +kernel
theorem dX1_endIsland_9 : decode cX1_endIsland 9 = .ok (.getfield 48, 3) := by decide +kernel
theorem dX1_endIsland_12 : decode cX1_endIsland 12 = .ok (.aload_n 0, 1) := by decide +kernel
theorem dX1_endIsland_13 : decode cX1_endIsland 13 = .ok (.getfield 51, 3) := by decide +kernel
theorem dX1_endIsland_16 : decode cX1_endIsland 16 = .ok (.aload_n 0, 1) := by decide +kernel
theorem dX1_endIsland_17 : decode cX1_endIsland 17 = .ok (.getfield 54, 3) := by decide +kernel
theorem dX1_endIsland_20 : decode cX1_endIsland 20 = .ok (.aload_n 0, 1) := by decide +kernel
theorem dX1_endIsland_21 : decode cX1_endIsland 21 = .ok (.getfield 57, 3) := by decide +kernel
theorem dX1_endIsland_24 : decode cX1_endIsland 24 = .ok (.invokevirtual 60, 3) := by decide +kernel
theorem dX1_endIsland_27 : decode cX1_endIsland 27 = .ok (.return_, 1) := by decide +kernel
theorem dX1_takes_0 : decode cX1_takes 0 = .ok (.aload_n 0, 1) := by decide +kernel
theorem dX1_takes_1 : decode cX1_takes 1 = .ok (.getfield 38, 3) := by decide +kernel
theorem dX1_takes_4 : decode cX1_takes 4 = .ok (.tableswitch 150 0 6 #[44, 74, 96, 102, 108, 114, 144], 44) := by decide +kernel
theorem dX1_takes_48 : decode cX1_takes 48 = .ok (.aload_n 0, 1) := by decide +kernel
theorem dX1_takes_49 : decode cX1_takes 49 = .ok (.iload_n 1, 1) := by decide +kernel
theorem dX1_takes_50 : decode cX1_takes 50 = .ok (.invokevirtual 64, 3) := by decide +kernel
theorem dX1_takes_53 : decode cX1_takes 53 = .ok (.ifCond .ne 19, 3) := by decide +kernel
theorem dX1_takes_56 : decode cX1_takes 56 = .ok (.aload_n 0, 1) := by decide +kernel
theorem dX1_takes_57 : decode cX1_takes 57 = .ok (.iload_n 1, 1) := by decide +kernel
theorem dX1_takes_58 : decode cX1_takes 58 = .ok (.invokevirtual 67, 3) := by decide +kernel
theorem dX1_takes_61 : decode cX1_takes 61 = .ok (.ifCond .ne 11, 3) := by decide +kernel
theorem dX1_takes_64 : decode cX1_takes 64 = .ok (.aload_n 0, 1) := by decide +kernel
theorem dX1_takes_65 : decode cX1_takes 65 = .ok (.iload_n 1, 1) := by decide +kernel
theorem dX1_takes_66 : decode cX1_takes 66 = .ok (.invokevirtual 70, 3) := by decide +kernel
theorem dX1_takes_69 : decode cX1_takes 69 = .ok (.ifCond .eq 7, 3) := by decide +kernel
theorem dX1_takes_72 : decode cX1_takes 72 = .ok (.iconst 1, 1) := by decide +kernel
theorem dX1_takes_73 : decode cX1_takes 73 = .ok (.goto 4, 3) := by decide +kernel
theorem dX1_takes_76 : decode cX1_takes 76 = .ok (.iconst 0, 1) := by decide +kernel
theorem dX1_takes_77 : decode cX1_takes 77 = .ok (.ireturn, 1) := by decide +kernel
theorem dX1_takes_78 : decode cX1_takes 78 = .ok (.aload_n 0, 1) := by decide +kernel
theorem dX1_takes_79 : decode cX1_takes 79 = .ok (.iload_n 1, 1) := by decide +kernel
theorem dX1_takes_80 : decode cX1_takes 80 = .ok (.invokevirtual 67, 3) := by decide +kernel
theorem dX1_takes_83 : decode cX1_takes 83 = .ok (.ifCond .ne 11, 3) := by decide +kernel
theorem dX1_takes_86 : decode cX1_takes 86 = .ok (.aload_n 0, 1) := by decide +kernel
theorem dX1_takes_87 : decode cX1_takes 87 = .ok (.iload_n 1, 1) := by decide +kernel
theorem dX1_takes_88 : decode cX1_takes 88 = .ok (.invokevirtual 70, 3) := by decide +kernel
theorem dX1_takes_91 : decode cX1_takes 91 = .ok (.ifCond .eq 7, 3) := by decide +kernel
theorem dX1_takes_94 : decode cX1_takes 94 = .ok (.iconst 1, 1) := by decide +kernel
theorem dX1_takes_95 : decode cX1_takes 95 = .ok (.goto 4, 3) := by decide +kernel
theorem dX1_takes_98 : decode cX1_takes 98 = .ok (.iconst 0, 1) := by decide +kernel
theorem dX1_takes_99 : decode cX1_takes 99 = .ok (.ireturn, 1) := by decide +kernel
theorem dX1_takes_100 : decode cX1_takes 100 = .ok (.aload_n 0, 1) := by decide +kernel
theorem dX1_takes_101 : decode cX1_takes 101 = .ok (.iload_n 1, 1) := by decide +kernel
theorem dX1_takes_102 : decode cX1_takes 102 = .ok (.invokevirtual 70, 3) := by decide +kernel
theorem dX1_takes_105 : decode cX1_takes 105 = .ok (.ireturn, 1) := by decide +kernel
theorem dX1_takes_106 : decode cX1_takes 106 = .ok (.aload_n 0, 1) := by decide +kernel
theorem dX1_takes_107 : decode cX1_takes 107 = .ok (.iload_n 1, 1) := by decide +kernel
theorem dX1_takes_108 : decode cX1_takes 108 = .ok (.invokevirtual 73, 3) := by decide +kernel
theorem dX1_takes_111 : decode cX1_takes 111 = .ok (.ireturn, 1) := by decide +kernel
theorem dX1_takes_112 : decode cX1_takes 112 = .ok (.aload_n 0, 1) := by decide +kernel
theorem dX1_takes_113 : decode cX1_takes 113 = .ok (.iload_n 1, 1) := by decide +kernel
theorem dX1_takes_114 : decode cX1_takes 114 = .ok (.invokevirtual 76, 3) := by decide +kernel
theorem dX1_takes_117 : decode cX1_takes 117 = .ok (.ireturn, 1) := by decide +kernel
theorem dX1_takes_118 : decode cX1_takes 118 = .ok (.aload_n 0, 1) := by decide +kernel
theorem dX1_takes_119 : decode cX1_takes 119 = .ok (.iload_n 1, 1) := by decide +kernel
theorem dX1_takes_120 : decode cX1_takes 120 = .ok (.invokevirtual 76, 3) := by decide +kernel
theorem dX1_takes_123 : decode cX1_takes 123 = .ok (.ifCond .ne 19, 3) := by decide +kernel
theorem dX1_takes_126 : decode cX1_takes 126 = .ok (.aload_n 0, 1) := by decide +kernel
theorem dX1_takes_127 : decode cX1_takes 127 = .ok (.iload_n 1, 1) := by decide +kernel
theorem dX1_takes_128 : decode cX1_takes 128 = .ok (.invokevirtual 79, 3) := by decide +kernel
theorem dX1_takes_131 : decode cX1_takes 131 = .ok (.ifCond .ne 11, 3) := by decide +kernel
theorem dX1_takes_134 : decode cX1_takes 134 = .ok (.aload_n 0, 1) := by decide +kernel
theorem dX1_takes_135 : decode cX1_takes 135 = .ok (.iload_n 1, 1) := by decide +kernel
theorem dX1_takes_136 : decode cX1_takes 136 = .ok (.invokevirtual 82, 3) := by decide +kernel
theorem dX1_takes_139 : decode cX1_takes 139 = .ok (.ifCond .eq 7, 3) := by decide +kernel
theorem dX1_takes_142 : decode cX1_takes 142 = .ok (.iconst 1, 1) := by decide +kernel
theorem dX1_takes_143 : decode cX1_takes 143 = .ok (.goto 4, 3) := by decide +kernel
theorem dX1_takes_146 : decode cX1_takes 146 = .ok (.iconst 0, 1) := by decide +kernel
theorem dX1_takes_147 : decode cX1_takes 147 = .ok (.ireturn, 1) := by decide +kernel
theorem dX1_takes_148 : decode cX1_takes 148 = .ok (.aload_n 0, 1) := by decide +kernel
theorem dX1_takes_149 : decode cX1_takes 149 = .ok (.iload_n 1, 1) := by decide +kernel
theorem dX1_takes_150 : decode cX1_takes 150 = .ok (.invokevirtual 85, 3) := by decide +kernel
theorem dX1_takes_153 : decode cX1_takes 153 = .ok (.ireturn, 1) := by decide +kernel
theorem dX1_takes_154 : decode cX1_takes 154 = .ok (.aload_n 0, 1) := by decide +kernel
theorem dX1_takes_155 : decode cX1_takes 155 = .ok (.iload_n 1, 1) := by decide +kernel
theorem dX1_takes_156 : decode cX1_takes 156 = .ok (.invokevirtual 79, 3) := by decide +kernel
theorem dX1_takes_159 : decode cX1_takes 159 = .ok (.ifCond .ne 11, 3) := by decide +kernel
theorem dX1_takes_162 : decode cX1_takes 162 = .ok (.aload_n 0, 1) := by decide +kernel
theorem dX1_takes_163 : decode cX1_takes 163 = .ok (.iload_n 1, 1) := by decide +kernel
theorem dX1_takes_164 : decode cX1_takes 164 = .ok (.invokevirtual 82, 3) := by decide +kernel
theorem dX1_takes_167 : decode cX1_takes 167 = .ok (.ifCond .eq 7, 3) := by decide +kernel
theorem dX1_takes_170 : decode cX1_takes 170 = .ok (.iconst 1, 1) := by decide +kernel
theorem dX1_takes_171 : decode cX1_takes 171 = .ok (.goto 4, 3) := by decide +kernel
theorem dX1_takes_174 : decode cX1_takes 174 = .ok (.iconst 0, 1) := by decide +kernel
theorem dX1_takes_175 : decode cX1_takes 175 = .ok (.ireturn, 1) := by decide +kernel
theorem dX1_takesIsolator_0 : decode cX1_takesIsolator 0 = .ok (.iload_n 1, 1) := by decide +kernel
theorem dX1_takesIsolator_1 : decode cX1_takesIsolator 1 = .ok (.bipush 105, 2) := by decide +kernel
theorem dX1_takesIsolator_3 : decode cX1_takesIsolator 3 = .ok (.if_icmp .eq 5, 3) := by decide +kernel
theorem dX1_takesIsolator_6 : decode cX1_takesIsolator 6 = .ok (.iconst 0, 1) := by decide +kernel
theorem dX1_takesIsolator_7 : decode cX1_takesIsolator 7 = .ok (.ireturn, 1) := by decide +kernel
theorem dX1_takesIsolator_8 : decode cX1_takesIsolator 8 = .ok (.aload_n 0, 1) := by decide +kernel
theorem dX1_takesIsolator_9 : decode cX1_takesIsolator 9 = .ok (.iconst 1, 1) := by decide +kernel
theorem dX1_takesIsolator_10 : decode cX1_takesIsolator 10 = .ok (.putfield 44, 3) := by decide +kernel
theorem dX1_takesIsolator_13 : decode cX1_takesIsolator 13 = .ok (.aload_n 0, 1) := by decide +kernel
theorem dX1_takesIsolator_14 : decode cX1_takesIsolator 14 = .ok (.iconst 1, 1) := by decide +kernel
theorem dX1_takesIsolator_15 : decode cX1_takesIsolator 15 = .ok (.putfield 38, 3) := by decide +kernel
theorem dX1_takesIsolator_18 : decode cX1_takesIsolator 18 = .ok (.iconst 1, 1) := by decide +kernel
theorem dX1_takesIsolator_19 : decode cX1_takesIsolator 19 = .ok (.ireturn, 1) := by decide +kernel
theorem dX1_takesKeeper_0 : decode cX1_takesKeeper 0 = .ok (.iload_n 1, 1) := by decide +kernel
theorem dX1_takesKeeper_1 : decode cX1_takesKeeper 1 = .ok (.bipush 107, 2) := by decide +kernel
theorem dX1_takesKeeper_3 : decode cX1_takesKeeper 3 = .ok (.if_icmp .eq 5, 3) := by decide +kernel
theorem dX1_takesKeeper_6 : decode cX1_takesKeeper 6 = .ok (.iconst 0, 1) := by decide +kernel
theorem dX1_takesKeeper_7 : decode cX1_takesKeeper 7 = .ok (.ireturn, 1) := by decide +kernel
theorem dX1_takesKeeper_8 : decode cX1_takesKeeper 8 = .ok (.aload_n 0, 1) := by decide +kernel
theorem dX1_takesKeeper_9 : decode cX1_takesKeeper 9 = .ok (.iconst 1, 1) := by decide +kernel
theorem dX1_takesKeeper_10 : decode cX1_takesKeeper 10 = .ok (.putfield 48, 3) := by decide +kernel
theorem dX1_takesKeeper_13 : decode cX1_takesKeeper 13 = .ok (.aload_n 0, 1) := by decide +kernel
theorem dX1_takesKeeper_14 : decode cX1_takesKeeper 14 = .ok (.iconst 2, 1) := by decide +kernel
theorem dX1_takesKeeper_15 : decode cX1_takesKeeper 15 = .ok (.putfield 38, 3) := by decide +kernel
theorem dX1_takesKeeper_18 : decode cX1_takesKeeper 18 = .ok (.iconst 1, 1) := by decide +kernel
theorem dX1_takesKeeper_19 : decode cX1_takesKeeper 19 = .ok (.ireturn, 1) := by decide +kernel
theorem dX1_takesRise_0 : decode cX1_takesRise 0 = .ok (.iload_n 1, 1) := by decide +kernel
theorem dX1_takesRise_1 : decode cX1_takesRise 1 = .ok (.bipush 49, 2) := by decide +kernel
theorem dX1_takesRise_3 : decode cX1_takesRise 3 = .ok (.if_icmp .lt 9, 3) := by decide +kernel
theorem dX1_takesRise_6 : decode cX1_takesRise 6 = .ok (.iload_n 1, 1) := by decide +kernel
theorem dX1_takesRise_7 : decode cX1_takesRise 7 = .ok (.bipush 57, 2) := by decide +kernel
theorem dX1_takesRise_9 : decode cX1_takesRise 9 = .ok (.if_icmp .le 5, 3) := by decide +kernel
theorem dX1_takesRise_12 : decode cX1_takesRise 12 = .ok (.iconst 0, 1) := by decide +kernel
theorem dX1_takesRise_13 : decode cX1_takesRise 13 = .ok (.ireturn, 1) := by decide +kernel
theorem dX1_takesRise_14 : decode cX1_takesRise 14 = .ok (.aload_n 0, 1) := by decide +kernel
theorem dX1_takesRise_15 : decode cX1_takesRise 15 = .ok (.iload_n 1, 1) := by decide +kernel
theorem dX1_takesRise_16 : decode cX1_takesRise 16 = .ok (.bipush 48, 2) := by decide +kernel
theorem dX1_takesRise_18 : decode cX1_takesRise 18 = .ok (.isub, 1) := by decide +kernel
theorem dX1_takesRise_19 : decode cX1_takesRise 19 = .ok (.putfield 51, 3) := by decide +kernel
theorem dX1_takesRise_22 : decode cX1_takesRise 22 = .ok (.aload_n 0, 1) := by decide +kernel
theorem dX1_takesRise_23 : decode cX1_takesRise 23 = .ok (.iconst 3, 1) := by decide +kernel
theorem dX1_takesRise_24 : decode cX1_takesRise 24 = .ok (.putfield 38, 3) := by decide +kernel
theorem dX1_takesRise_27 : decode cX1_takesRise 27 = .ok (.iconst 1, 1) := by decide +kernel
theorem dX1_takesRise_28 : decode cX1_takesRise 28 = .ok (.ireturn, 1) := by decide +kernel
theorem dX1_takesComma_0 : decode cX1_takesComma 0 = .ok (.iload_n 1, 1) := by decide +kernel
theorem dX1_takesComma_1 : decode cX1_takesComma 1 = .ok (.bipush 44, 2) := by decide +kernel
theorem dX1_takesComma_3 : decode cX1_takesComma 3 = .ok (.if_icmp .eq 5, 3) := by decide +kernel
theorem dX1_takesComma_6 : decode cX1_takesComma 6 = .ok (.iconst 0, 1) := by decide +kernel
theorem dX1_takesComma_7 : decode cX1_takesComma 7 = .ok (.ireturn, 1) := by decide +kernel
theorem dX1_takesComma_8 : decode cX1_takesComma 8 = .ok (.aload_n 0, 1) := by decide +kernel
theorem dX1_takesComma_9 : decode cX1_takesComma 9 = .ok (.iconst 4, 1) := by decide +kernel
theorem dX1_takesComma_10 : decode cX1_takesComma 10 = .ok (.putfield 38, 3) := by decide +kernel
theorem dX1_takesComma_13 : decode cX1_takesComma 13 = .ok (.iconst 1, 1) := by decide +kernel
theorem dX1_takesComma_14 : decode cX1_takesComma 14 = .ok (.ireturn, 1) := by decide +kernel
theorem dX1_takesLoad_0 : decode cX1_takesLoad 0 = .ok (.iload_n 1, 1) := by decide +kernel
theorem dX1_takesLoad_1 : decode cX1_takesLoad 1 = .ok (.bipush 48, 2) := by decide +kernel
theorem dX1_takesLoad_3 : decode cX1_takesLoad 3 = .ok (.if_icmp .lt 9, 3) := by decide +kernel
theorem dX1_takesLoad_6 : decode cX1_takesLoad 6 = .ok (.iload_n 1, 1) := by decide +kernel
theorem dX1_takesLoad_7 : decode cX1_takesLoad 7 = .ok (.bipush 57, 2) := by decide +kernel
theorem dX1_takesLoad_9 : decode cX1_takesLoad 9 = .ok (.if_icmp .le 5, 3) := by decide +kernel
theorem dX1_takesLoad_12 : decode cX1_takesLoad 12 = .ok (.iconst 0, 1) := by decide +kernel
theorem dX1_takesLoad_13 : decode cX1_takesLoad 13 = .ok (.ireturn, 1) := by decide +kernel
theorem dX1_takesLoad_14 : decode cX1_takesLoad 14 = .ok (.aload_n 0, 1) := by decide +kernel
theorem dX1_takesLoad_15 : decode cX1_takesLoad 15 = .ok (.getfield 54, 3) := by decide +kernel
theorem dX1_takesLoad_18 : decode cX1_takesLoad 18 = .ok (.bipush 10, 2) := by decide +kernel
theorem dX1_takesLoad_20 : decode cX1_takesLoad 20 = .ok (.imul, 1) := by decide +kernel
theorem dX1_takesLoad_21 : decode cX1_takesLoad 21 = .ok (.iload_n 1, 1) := by decide +kernel
theorem dX1_takesLoad_22 : decode cX1_takesLoad 22 = .ok (.bipush 48, 2) := by decide +kernel
theorem dX1_takesLoad_24 : decode cX1_takesLoad 24 = .ok (.isub, 1) := by decide +kernel
theorem dX1_takesLoad_25 : decode cX1_takesLoad 25 = .ok (.iadd, 1) := by decide +kernel
theorem dX1_takesLoad_26 : decode cX1_takesLoad 26 = .ok (.istore_n 2, 1) := by decide +kernel
theorem dX1_takesLoad_27 : decode cX1_takesLoad 27 = .ok (.iload_n 2, 1) := by decide +kernel
theorem dX1_takesLoad_28 : decode cX1_takesLoad 28 = .ok (.iconst 1, 1) := by decide +kernel
theorem dX1_takesLoad_29 : decode cX1_takesLoad 29 = .ok (.bipush 20, 2) := by decide +kernel
theorem dX1_takesLoad_31 : decode cX1_takesLoad 31 = .ok (.invokestatic 88, 3) := by decide +kernel
theorem dX1_takesLoad_34 : decode cX1_takesLoad 34 = .ok (.ifCond .ne 5, 3) := by decide +kernel
theorem dX1_takesLoad_37 : decode cX1_takesLoad 37 = .ok (.iconst 0, 1) := by decide +kernel
theorem dX1_takesLoad_38 : decode cX1_takesLoad 38 = .ok (.ireturn, 1) := by decide +kernel
theorem dX1_takesLoad_39 : decode cX1_takesLoad 39 = .ok (.aload_n 0, 1) := by decide +kernel
theorem dX1_takesLoad_40 : decode cX1_takesLoad 40 = .ok (.iload_n 2, 1) := by decide +kernel
theorem dX1_takesLoad_41 : decode cX1_takesLoad 41 = .ok (.putfield 54, 3) := by decide +kernel
theorem dX1_takesLoad_44 : decode cX1_takesLoad 44 = .ok (.aload_n 0, 1) := by decide +kernel
theorem dX1_takesLoad_45 : decode cX1_takesLoad 45 = .ok (.iconst 5, 1) := by decide +kernel
theorem dX1_takesLoad_46 : decode cX1_takesLoad 46 = .ok (.putfield 38, 3) := by decide +kernel
theorem dX1_takesLoad_49 : decode cX1_takesLoad 49 = .ok (.iconst 1, 1) := by decide +kernel
theorem dX1_takesLoad_50 : decode cX1_takesLoad 50 = .ok (.ireturn, 1) := by decide +kernel
theorem dX1_takesArrow_0 : decode cX1_takesArrow 0 = .ok (.iload_n 1, 1) := by decide +kernel
theorem dX1_takesArrow_1 : decode cX1_takesArrow 1 = .ok (.bipush 62, 2) := by decide +kernel
theorem dX1_takesArrow_3 : decode cX1_takesArrow 3 = .ok (.if_icmp .eq 5, 3) := by decide +kernel
theorem dX1_takesArrow_6 : decode cX1_takesArrow 6 = .ok (.iconst 0, 1) := by decide +kernel
theorem dX1_takesArrow_7 : decode cX1_takesArrow 7 = .ok (.ireturn, 1) := by decide +kernel
theorem dX1_takesArrow_8 : decode cX1_takesArrow 8 = .ok (.aload_n 0, 1) := by decide +kernel
theorem dX1_takesArrow_9 : decode cX1_takesArrow 9 = .ok (.bipush 6, 2) := by decide +kernel
theorem dX1_takesArrow_11 : decode cX1_takesArrow 11 = .ok (.putfield 38, 3) := by decide +kernel
theorem dX1_takesArrow_14 : decode cX1_takesArrow 14 = .ok (.iconst 1, 1) := by decide +kernel
theorem dX1_takesArrow_15 : decode cX1_takesArrow 15 = .ok (.ireturn, 1) := by decide +kernel
theorem dX1_takesNumber_0 : decode cX1_takesNumber 0 = .ok (.iload_n 1, 1) := by decide +kernel
theorem dX1_takesNumber_1 : decode cX1_takesNumber 1 = .ok (.bipush 48, 2) := by decide +kernel
theorem dX1_takesNumber_3 : decode cX1_takesNumber 3 = .ok (.isub, 1) := by decide +kernel
theorem dX1_takesNumber_4 : decode cX1_takesNumber 4 = .ok (.istore_n 2, 1) := by decide +kernel
theorem dX1_takesNumber_5 : decode cX1_takesNumber 5 = .ok (.iload_n 2, 1) := by decide +kernel
theorem dX1_takesNumber_6 : decode cX1_takesNumber 6 = .ok (.iconst 0, 1) := by decide +kernel
theorem dX1_takesNumber_7 : decode cX1_takesNumber 7 = .ok (.bipush 7, 2) := by decide +kernel
theorem dX1_takesNumber_9 : decode cX1_takesNumber 9 = .ok (.invokestatic 88, 3) := by decide +kernel
theorem dX1_takesNumber_12 : decode cX1_takesNumber 12 = .ok (.ifCond .eq 14, 3) := by decide +kernel
theorem dX1_takesNumber_15 : decode cX1_takesNumber 15 = .ok (.iload_n 2, 1) := by decide +kernel
theorem dX1_takesNumber_16 : decode cX1_takesNumber 16 = .ok (.aload_n 0, 1) := by decide +kernel
theorem dX1_takesNumber_17 : decode cX1_takesNumber 17 = .ok (.getfield 12, 3) := by decide +kernel
theorem dX1_takesNumber_20 : decode cX1_takesNumber 20 = .ok (.getfield 92, 3) := by decide +kernel
theorem dX1_takesNumber_23 : decode cX1_takesNumber 23 = .ok (.if_icmp .ne 5, 3) := by decide +kernel
theorem dX1_takesNumber_26 : decode cX1_takesNumber 26 = .ok (.iconst 0, 1) := by decide +kernel
theorem dX1_takesNumber_27 : decode cX1_takesNumber 27 = .ok (.ireturn, 1) := by decide +kernel
theorem dX1_takesNumber_28 : decode cX1_takesNumber 28 = .ok (.aload_n 0, 1) := by decide +kernel
theorem dX1_takesNumber_29 : decode cX1_takesNumber 29 = .ok (.dup, 1) := by decide +kernel
theorem dX1_takesNumber_30 : decode cX1_takesNumber 30 = .ok (.getfield 57, 3) := by decide +kernel
theorem dX1_takesNumber_33 : decode cX1_takesNumber 33 = .ok (.iconst 1, 1) := by decide +kernel
theorem dX1_takesNumber_34 : decode cX1_takesNumber 34 = .ok (.iload_n 2, 1) := by decide +kernel
theorem dX1_takesNumber_35 : decode cX1_takesNumber 35 = .ok (.ishl, 1) := by decide +kernel
theorem dX1_takesNumber_36 : decode cX1_takesNumber 36 = .ok (.ior, 1) := by decide +kernel
theorem dX1_takesNumber_37 : decode cX1_takesNumber 37 = .ok (.putfield 57, 3) := by decide +kernel
theorem dX1_takesNumber_40 : decode cX1_takesNumber 40 = .ok (.aload_n 0, 1) := by decide +kernel
theorem dX1_takesNumber_41 : decode cX1_takesNumber 41 = .ok (.bipush 7, 2) := by decide +kernel
theorem dX1_takesNumber_43 : decode cX1_takesNumber 43 = .ok (.putfield 38, 3) := by decide +kernel
theorem dX1_takesNumber_46 : decode cX1_takesNumber 46 = .ok (.iconst 1, 1) := by decide +kernel
theorem dX1_takesNumber_47 : decode cX1_takesNumber 47 = .ok (.ireturn, 1) := by decide +kernel
theorem dX1_takesEnd_0 : decode cX1_takesEnd 0 = .ok (.iload_n 1, 1) := by decide +kernel
theorem dX1_takesEnd_1 : decode cX1_takesEnd 1 = .ok (.bipush 59, 2) := by decide +kernel
theorem dX1_takesEnd_3 : decode cX1_takesEnd 3 = .ok (.if_icmp .ne 17, 3) := by decide +kernel
theorem dX1_takesEnd_6 : decode cX1_takesEnd 6 = .ok (.aload_n 0, 1) := by decide +kernel
theorem dX1_takesEnd_7 : decode cX1_takesEnd 7 = .ok (.getfield 12, 3) := by decide +kernel
theorem dX1_takesEnd_10 : decode cX1_takesEnd 10 = .ok (.getfield 92, 3) := by decide +kernel
theorem dX1_takesEnd_13 : decode cX1_takesEnd 13 = .ok (.iconst 1, 1) := by decide +kernel
theorem dX1_takesEnd_14 : decode cX1_takesEnd 14 = .ok (.iadd, 1) := by decide +kernel
theorem dX1_takesEnd_15 : decode cX1_takesEnd 15 = .ok (.bipush 8, 2) := by decide +kernel
theorem dX1_takesEnd_17 : decode cX1_takesEnd 17 = .ok (.if_icmp .lt 5, 3) := by decide +kernel
theorem dX1_takesEnd_20 : decode cX1_takesEnd 20 = .ok (.iconst 0, 1) := by decide +kernel
theorem dX1_takesEnd_21 : decode cX1_takesEnd 21 = .ok (.ireturn, 1) := by decide +kernel
theorem dX1_takesEnd_22 : decode cX1_takesEnd 22 = .ok (.aload_n 0, 1) := by decide +kernel
theorem dX1_takesEnd_23 : decode cX1_takesEnd 23 = .ok (.invokevirtual 41, 3) := by decide +kernel
theorem dX1_takesEnd_26 : decode cX1_takesEnd 26 = .ok (.aload_n 0, 1) := by decide +kernel
theorem dX1_takesEnd_27 : decode cX1_takesEnd 27 = .ok (.invokevirtual 18, 3) := by decide +kernel
theorem dX1_takesEnd_30 : decode cX1_takesEnd 30 = .ok (.iconst 1, 1) := by decide +kernel
theorem dX1_takesEnd_31 : decode cX1_takesEnd 31 = .ok (.ireturn, 1) := by decide +kernel
theorem dX2_init_0 : decode cX2_init 0 = .ok (.aload_n 0, 1) := by decide +kernel
theorem dX2_init_1 : decode cX2_init 1 = .ok (.invokespecial 3, 3) := by decide +kernel
theorem dX2_init_4 : decode cX2_init 4 = .ok (.aload_n 0, 1) := by decide +kernel
theorem dX2_init_5 : decode cX2_init 5 = .ok (.bipush 6, 2) := by decide +kernel
theorem dX2_init_7 : decode cX2_init 7 = .ok (.anewarray 9, 3) := by decide +kernel
theorem dX2_init_10 : decode cX2_init 10 = .ok (.putfield 11, 3) := by decide +kernel
theorem dX2_init_13 : decode cX2_init 13 = .ok (.aload_n 0, 1) := by decide +kernel
theorem dX2_init_14 : decode cX2_init 14 = .ok (.iconst 0, 1) := by decide +kernel
theorem dX2_init_15 : decode cX2_init 15 = .ok (.putfield 17, 3) := by decide +kernel
theorem dX2_init_18 : decode cX2_init 18 = .ok (.iconst 0, 1) := by decide +kernel
theorem dX2_init_19 : decode cX2_init 19 = .ok (.istore_n 1, 1) := by decide +kernel
theorem dX2_init_20 : decode cX2_init 20 = .ok (.iload_n 1, 1) := by decide +kernel
theorem dX2_init_21 : decode cX2_init 21 = .ok (.bipush 6, 2) := by decide +kernel
theorem dX2_init_23 : decode cX2_init 23 = .ok (.if_icmp .ge 22, 3) := by decide +kernel
theorem dX2_init_26 : decode cX2_init 26 = .ok (.aload_n 0, 1) := by decide +kernel
theorem dX2_init_27 : decode cX2_init 27 = .ok (.getfield 11, 3) := by decide +kernel
theorem dX2_init_30 : decode cX2_init 30 = .ok (.iload_n 1, 1) := by decide +kernel
theorem dX2_init_31 : decode cX2_init 31 = .ok (.new 9, 3) := by decide +kernel
theorem dX2_init_34 : decode cX2_init 34 = .ok (.dup, 1) := by decide +kernel
theorem dX2_init_35 : decode cX2_init 35 = .ok (.invokespecial 21, 3) := by decide +kernel
theorem dX2_init_38 : decode cX2_init 38 = .ok (.aastore, 1) := by decide +kernel
theorem dX2_init_39 : decode cX2_init 39 = .ok (.iinc 1 1, 3) := by decide +kernel
theorem dX2_init_42 : decode cX2_init 42 = .ok (.goto (-22), 3) := by decide +kernel
theorem dX2_init_45 : decode cX2_init 45 = .ok (.return_, 1) := by decide +kernel
theorem dX2_record_0 : decode cX2_record 0 = .ok (.aload_n 0, 1) := by decide +kernel
theorem dX2_record_1 : decode cX2_record 1 = .ok (.getfield 17, 3) := by decide +kernel
theorem dX2_record_4 : decode cX2_record 4 = .ok (.bipush 6, 2) := by decide +kernel
theorem dX2_record_6 : decode cX2_record 6 = .ok (.if_icmp .lt 7, 3) := by decide +kernel
theorem dX2_record_9 : decode cX2_record 9 = .ok (.aload_n 0, 1) := by decide +kernel
theorem dX2_record_10 : decode cX2_record 10 = .ok (.invokevirtual 22, 3) := by decide +kernel
theorem dX2_record_13 : decode cX2_record 13 = .ok (.aload_n 0, 1) := by decide +kernel
theorem dX2_record_14 : decode cX2_record 14 = .ok (.aload_n 0, 1) := by decide +kernel
theorem dX2_record_15 : decode cX2_record 15 = .ok (.getfield 17, 3) := by decide +kernel
theorem dX2_record_18 : decode cX2_record 18 = .ok (.invokevirtual 25, 3) := by decide +kernel
theorem dX2_record_21 : decode cX2_record 21 = .ok (.astore_n 2, 1) := by decide +kernel
theorem dX2_record_22 : decode cX2_record 22 = .ok (.aload_n 2, 1) := by decide +kernel
theorem dX2_record_23 : decode cX2_record 23 = .ok (.ifnull 18, 3) := by decide +kernel
theorem dX2_record_26 : decode cX2_record 26 = .ok (.aload_n 2, 1) := by decide +kernel
theorem dX2_record_27 : decode cX2_record 27 = .ok (.aload_n 1, 1) := by decide +kernel
theorem dX2_record_28 : decode cX2_record 28 = .ok (.invokevirtual 29, 3) := by decide +kernel
theorem dX2_record_31 : decode cX2_record 31 = .ok (.aload_n 0, 1) := by decide +kernel
theorem dX2_record_32 : decode cX2_record 32 = .ok (.dup, 1) := by decide +kernel
theorem dX2_record_33 : decode cX2_record 33 = .ok (.getfield 17, 3) := by decide +kernel
theorem dX2_record_36 : decode cX2_record 36 = .ok (.iconst 1, 1) := by decide +kernel
theorem dX2_record_37 : decode cX2_record 37 = .ok (.iadd, 1) := by decide +kernel
theorem dX2_record_38 : decode cX2_record 38 = .ok (.putfield 17, 3) := by decide +kernel
theorem dX2_record_41 : decode cX2_record 41 = .ok (.return_, 1) := by decide +kernel
theorem dX2_dropOldest_0 : decode cX2_dropOldest 0 = .ok (.aload_n 0, 1) := by decide +kernel
theorem dX2_dropOldest_1 : decode cX2_dropOldest 1 = .ok (.getfield 11, 3) := by decide +kernel
theorem dX2_dropOldest_4 : decode cX2_dropOldest 4 = .ok (.iconst 0, 1) := by decide +kernel
theorem dX2_dropOldest_5 : decode cX2_dropOldest 5 = .ok (.aaload, 1) := by decide +kernel
theorem dX2_dropOldest_6 : decode cX2_dropOldest 6 = .ok (.astore_n 1, 1) := by decide +kernel
theorem dX2_dropOldest_7 : decode cX2_dropOldest 7 = .ok (.iconst 1, 1) := by decide +kernel
theorem dX2_dropOldest_8 : decode cX2_dropOldest 8 = .ok (.istore_n 2, 1) := by decide +kernel
theorem dX2_dropOldest_9 : decode cX2_dropOldest 9 = .ok (.iload_n 2, 1) := by decide +kernel
theorem dX2_dropOldest_10 : decode cX2_dropOldest 10 = .ok (.bipush 6, 2) := by decide +kernel
theorem dX2_dropOldest_12 : decode cX2_dropOldest 12 = .ok (.if_icmp .ge 23, 3) := by decide +kernel
theorem dX2_dropOldest_15 : decode cX2_dropOldest 15 = .ok (.aload_n 0, 1) := by decide +kernel
theorem dX2_dropOldest_16 : decode cX2_dropOldest 16 = .ok (.getfield 11, 3) := by decide +kernel
theorem dX2_dropOldest_19 : decode cX2_dropOldest 19 = .ok (.iload_n 2, 1) := by decide +kernel
theorem dX2_dropOldest_20 : decode cX2_dropOldest 20 = .ok (.iconst 1, 1) := by decide +kernel
theorem dX2_dropOldest_21 : decode cX2_dropOldest 21 = .ok (.isub, 1) := by decide +kernel
theorem dX2_dropOldest_22 : decode cX2_dropOldest 22 = .ok (.aload_n 0, 1) := by decide +kernel
theorem dX2_dropOldest_23 : decode cX2_dropOldest 23 = .ok (.getfield 11, 3) := by decide +kernel
theorem dX2_dropOldest_26 : decode cX2_dropOldest 26 = .ok (.iload_n 2, 1) := by decide +kernel
theorem dX2_dropOldest_27 : decode cX2_dropOldest 27 = .ok (.aaload, 1) := by decide +kernel
theorem dX2_dropOldest_28 : decode cX2_dropOldest 28 = .ok (.aastore, 1) := by decide +kernel
theorem dX2_dropOldest_29 : decode cX2_dropOldest 29 = .ok (.iinc 2 1, 3) := by decide +kernel
theorem dX2_dropOldest_32 : decode cX2_dropOldest 32 = .ok (.goto (-23), 3) := by decide +kernel
theorem dX2_dropOldest_35 : decode cX2_dropOldest 35 = .ok (.aload_n 0, 1) := by decide +kernel
theorem dX2_dropOldest_36 : decode cX2_dropOldest 36 = .ok (.getfield 11, 3) := by decide +kernel
theorem dX2_dropOldest_39 : decode cX2_dropOldest 39 = .ok (.iconst 5, 1) := by decide +kernel
theorem dX2_dropOldest_40 : decode cX2_dropOldest 40 = .ok (.aload_n 1, 1) := by decide +kernel
theorem dX2_dropOldest_41 : decode cX2_dropOldest 41 = .ok (.aastore, 1) := by decide +kernel
theorem dX2_dropOldest_42 : decode cX2_dropOldest 42 = .ok (.aload_n 0, 1) := by decide +kernel
theorem dX2_dropOldest_43 : decode cX2_dropOldest 43 = .ok (.iconst 5, 1) := by decide +kernel
theorem dX2_dropOldest_44 : decode cX2_dropOldest 44 = .ok (.putfield 17, 3) := by decide +kernel
theorem dX2_dropOldest_47 : decode cX2_dropOldest 47 = .ok (.return_, 1) := by decide +kernel
theorem dX2_takeBack_0 : decode cX2_takeBack 0 = .ok (.aload_n 0, 1) := by decide +kernel
theorem dX2_takeBack_1 : decode cX2_takeBack 1 = .ok (.aload_n 0, 1) := by decide +kernel
theorem dX2_takeBack_2 : decode cX2_takeBack 2 = .ok (.getfield 17, 3) := by decide +kernel
theorem dX2_takeBack_5 : decode cX2_takeBack 5 = .ok (.iconst 1, 1) := by decide +kernel
theorem dX2_takeBack_6 : decode cX2_takeBack 6 = .ok (.isub, 1) := by decide +kernel
theorem dX2_takeBack_7 : decode cX2_takeBack 7 = .ok (.invokevirtual 25, 3) := by decide +kernel
theorem dX2_takeBack_10 : decode cX2_takeBack 10 = .ok (.astore_n 2, 1) := by decide +kernel
theorem dX2_takeBack_11 : decode cX2_takeBack 11 = .ok (.aload_n 2, 1) := by decide +kernel
theorem dX2_takeBack_12 : decode cX2_takeBack 12 = .ok (.ifnull 18, 3) := by decide +kernel
theorem dX2_takeBack_15 : decode cX2_takeBack 15 = .ok (.aload_n 1, 1) := by decide +kernel
theorem dX2_takeBack_16 : decode cX2_takeBack 16 = .ok (.aload_n 2, 1) := by decide +kernel
theorem dX2_takeBack_17 : decode cX2_takeBack 17 = .ok (.invokevirtual 29, 3) := by decide +kernel
theorem dX2_takeBack_20 : decode cX2_takeBack 20 = .ok (.aload_n 0, 1) := by decide +kernel
theorem dX2_takeBack_21 : decode cX2_takeBack 21 = .ok (.dup, 1) := by decide +kernel
theorem dX2_takeBack_22 : decode cX2_takeBack 22 = .ok (.getfield 17, 3) := by decide +kernel
theorem dX2_takeBack_25 : decode cX2_takeBack 25 = .ok (.iconst 1, 1) := by decide +kernel
theorem dX2_takeBack_26 : decode cX2_takeBack 26 = .ok (.isub, 1) := by decide +kernel
theorem dX2_takeBack_27 : decode cX2_takeBack 27 = .ok (.putfield 17, 3) := by decide +kernel
theorem dX2_takeBack_30 : decode cX2_takeBack 30 = .ok (.return_, 1) := by decide +kernel
theorem dX2_stateAt_0 : decode cX2_stateAt 0 = .ok (.iload_n 1, 1) := by decide +kernel
theorem dX2_stateAt_1 : decode cX2_stateAt 1 = .ok (.ifCond .lt 18, 3) := by decide +kernel
theorem dX2_stateAt_4 : decode cX2_stateAt 4 = .ok (.iload_n 1, 1) := by decide +kernel
theorem dX2_stateAt_5 : decode cX2_stateAt 5 = .ok (.bipush 6, 2) := by decide +kernel
theorem dX2_stateAt_7 : decode cX2_stateAt 7 = .ok (.if_icmp .ge 12, 3) := by decide +kernel
theorem dX2_stateAt_10 : decode cX2_stateAt 10 = .ok (.aload_n 0, 1) := by decide +kernel
theorem dX2_stateAt_11 : decode cX2_stateAt 11 = .ok (.getfield 11, 3) := by decide +kernel
theorem dX2_stateAt_14 : decode cX2_stateAt 14 = .ok (.iload_n 1, 1) := by decide +kernel
theorem dX2_stateAt_15 : decode cX2_stateAt 15 = .ok (.aaload, 1) := by decide +kernel
theorem dX2_stateAt_16 : decode cX2_stateAt 16 = .ok (.goto 4, 3) := by decide +kernel
theorem dX2_stateAt_19 : decode cX2_stateAt 19 = .ok (.aconst_null, 1) := by decide +kernel
theorem dX2_stateAt_20 : decode cX2_stateAt 20 = .ok (.areturn, 1) := by decide +kernel
theorem dX3_init_0 : decode cX3_init 0 = .ok (.aload_n 0, 1) := by decide +kernel
theorem dX3_init_1 : decode cX3_init 1 = .ok (.invokespecial 3, 3) := by decide +kernel
theorem dX3_init_4 : decode cX3_init 4 = .ok (.aload_n 0, 1) := by decide +kernel
theorem dX3_init_5 : decode cX3_init 5 = .ok (.bipush 64, 2) := by decide +kernel
theorem dX3_init_7 : decode cX3_init 7 = .ok (.newarray .char, 2) := by decide +kernel
theorem dX3_init_9 : decode cX3_init 9 = .ok (.putfield 9, 3) := by decide +kernel
theorem dX3_init_12 : decode cX3_init 12 = .ok (.return_, 1) := by decide +kernel
theorem dX3_append_0 : decode cX3_append 0 = .ok (.aload_n 0, 1) := by decide +kernel
theorem dX3_append_1 : decode cX3_append 1 = .ok (.getfield 15, 3) := by decide +kernel
theorem dX3_append_4 : decode cX3_append 4 = .ok (.ifCond .lt 32, 3) := by decide +kernel
theorem dX3_append_7 : decode cX3_append 7 = .ok (.aload_n 0, 1) := by decide +kernel
theorem dX3_append_8 : decode cX3_append 8 = .ok (.getfield 15, 3) := by decide +kernel
theorem dX3_append_11 : decode cX3_append 11 = .ok (.bipush 64, 2) := by decide +kernel
theorem dX3_append_13 : decode cX3_append 13 = .ok (.if_icmp .ge 23, 3) := by decide +kernel
theorem dX3_append_16 : decode cX3_append 16 = .ok (.aload_n 0, 1) := by decide +kernel
theorem dX3_append_17 : decode cX3_append 17 = .ok (.getfield 9, 3) := by decide +kernel
theorem dX3_append_20 : decode cX3_append 20 = .ok (.aload_n 0, 1) := by decide +kernel
theorem dX3_append_21 : decode cX3_append 21 = .ok (.getfield 15, 3) := by decide +kernel
theorem dX3_append_24 : decode cX3_append 24 = .ok (.iload_n 1, 1) := by decide +kernel
theorem dX3_append_25 : decode cX3_append 25 = .ok (.castore, 1) := by decide +kernel
theorem dX3_append_26 : decode cX3_append 26 = .ok (.aload_n 0, 1) := by decide +kernel
theorem dX3_append_27 : decode cX3_append 27 = .ok (.dup, 1) := by decide +kernel
theorem dX3_append_28 : decode cX3_append 28 = .ok (.getfield 15, 3) := by decide +kernel
theorem dX3_append_31 : decode cX3_append 31 = .ok (.iconst 1, 1) := by decide +kernel
theorem dX3_append_32 : decode cX3_append 32 = .ok (.iadd, 1) := by decide +kernel
theorem dX3_append_33 : decode cX3_append 33 = .ok (.putfield 15, 3) := by decide +kernel
theorem dX3_append_36 : decode cX3_append 36 = .ok (.return_, 1) := by decide +kernel
theorem dX4_init_0 : decode cX4_init 0 = .ok (.aload_n 0, 1) := by decide +kernel
theorem dX4_init_1 : decode cX4_init 1 = .ok (.invokespecial 1, 3) := by decide +kernel
theorem dX4_init_4 : decode cX4_init 4 = .ok (.aload_n 0, 1) := by decide +kernel
theorem dX4_init_5 : decode cX4_init 5 = .ok (.new 7, 3) := by decide +kernel
theorem dX4_init_8 : decode cX4_init 8 = .ok (.dup, 1) := by decide +kernel
theorem dX4_init_9 : decode cX4_init 9 = .ok (.invokespecial 9, 3) := by decide +kernel
theorem dX4_init_12 : decode cX4_init 12 = .ok (.putfield 10, 3) := by decide +kernel
theorem dX4_init_15 : decode cX4_init 15 = .ok (.aload_n 0, 1) := by decide +kernel
theorem dX4_init_16 : decode cX4_init 16 = .ok (.new 7, 3) := by decide +kernel
theorem dX4_init_19 : decode cX4_init 19 = .ok (.dup, 1) := by decide +kernel
theorem dX4_init_20 : decode cX4_init 20 = .ok (.invokespecial 9, 3) := by decide +kernel
theorem dX4_init_23 : decode cX4_init 23 = .ok (.putfield 16, 3) := by decide +kernel
theorem dX4_init_26 : decode cX4_init 26 = .ok (.aload_n 0, 1) := by decide +kernel
theorem dX4_init_27 : decode cX4_init 27 = .ok (.new 19, 3) := by decide +kernel
theorem dX4_init_30 : decode cX4_init 30 = .ok (.dup, 1) := by decide +kernel
theorem dX4_init_31 : decode cX4_init 31 = .ok (.invokespecial 21, 3) := by decide +kernel
theorem dX4_init_34 : decode cX4_init 34 = .ok (.putfield 22, 3) := by decide +kernel
theorem dX4_init_37 : decode cX4_init 37 = .ok (.aload_n 0, 1) := by decide +kernel
theorem dX4_init_38 : decode cX4_init 38 = .ok (.new 26, 3) := by decide +kernel
theorem dX4_init_41 : decode cX4_init 41 = .ok (.dup, 1) := by decide +kernel
theorem dX4_init_42 : decode cX4_init 42 = .ok (.invokespecial 28, 3) := by decide +kernel
theorem dX4_init_45 : decode cX4_init 45 = .ok (.putfield 29, 3) := by decide +kernel
theorem dX4_init_48 : decode cX4_init 48 = .ok (.aload_n 0, 1) := by decide +kernel
theorem dX4_init_49 : decode cX4_init 49 = .ok (.new 33, 3) := by decide +kernel
theorem dX4_init_52 : decode cX4_init 52 = .ok (.dup, 1) := by decide +kernel
theorem dX4_init_53 : decode cX4_init 53 = .ok (.invokespecial 35, 3) := by decide +kernel
theorem dX4_init_56 : decode cX4_init 56 = .ok (.putfield 36, 3) := by decide +kernel
theorem dX4_init_59 : decode cX4_init 59 = .ok (.aload_n 0, 1) := by decide +kernel
theorem dX4_init_60 : decode cX4_init 60 = .ok (.new 7, 3) := by decide +kernel
theorem dX4_init_63 : decode cX4_init 63 = .ok (.dup, 1) := by decide +kernel
theorem dX4_init_64 : decode cX4_init 64 = .ok (.invokespecial 9, 3) := by decide +kernel
theorem dX4_init_67 : decode cX4_init 67 = .ok (.putfield 40, 3) := by decide +kernel
theorem dX4_init_70 : decode cX4_init 70 = .ok (.aload_n 0, 1) := by decide +kernel
theorem dX4_init_71 : decode cX4_init 71 = .ok (.new 7, 3) := by decide +kernel
theorem dX4_init_74 : decode cX4_init 74 = .ok (.dup, 1) := by decide +kernel
theorem dX4_init_75 : decode cX4_init 75 = .ok (.invokespecial 9, 3) := by decide +kernel
theorem dX4_init_78 : decode cX4_init 78 = .ok (.putfield 43, 3) := by decide +kernel
theorem dX4_init_81 : decode cX4_init 81 = .ok (.aload_n 0, 1) := by decide +kernel
theorem dX4_init_82 : decode cX4_init 82 = .ok (.iconst 0, 1) := by decide +kernel
theorem dX4_init_83 : decode cX4_init 83 = .ok (.putfield 46, 3) := by decide +kernel
theorem dX4_init_86 : decode cX4_init 86 = .ok (.return_, 1) := by decide +kernel
theorem dX4_set_0 : decode cX4_set 0 = .ok (.iload_n 1, 1) := by decide +kernel
theorem dX4_set_1 : decode cX4_set 1 = .ok (.ifCond .ne 9, 3) := by decide +kernel
theorem dX4_set_4 : decode cX4_set 4 = .ok (.aload_n 0, 1) := by decide +kernel
theorem dX4_set_5 : decode cX4_set 5 = .ok (.iload_n 2, 1) := by decide +kernel
theorem dX4_set_6 : decode cX4_set 6 = .ok (.invokevirtual 50, 3) := by decide +kernel
theorem dX4_set_9 : decode cX4_set 9 = .ok (.ireturn, 1) := by decide +kernel
theorem dX4_set_10 : decode cX4_set 10 = .ok (.iload_n 1, 1) := by decide +kernel
theorem dX4_set_11 : decode cX4_set 11 = .ok (.iconst 1, 1) := by decide +kernel
theorem dX4_set_12 : decode cX4_set 12 = .ok (.if_icmp .ne 9, 3) := by decide +kernel
theorem dX4_set_15 : decode cX4_set 15 = .ok (.aload_n 0, 1) := by decide +kernel
theorem dX4_set_16 : decode cX4_set 16 = .ok (.iload_n 2, 1) := by decide +kernel
theorem dX4_set_17 : decode cX4_set 17 = .ok (.invokevirtual 54, 3) := by decide +kernel
theorem dX4_set_20 : decode cX4_set 20 = .ok (.ireturn, 1) := by decide +kernel
theorem dX4_set_21 : decode cX4_set 21 = .ok (.bipush (-2), 2) := by decide +kernel
theorem dX4_set_23 : decode cX4_set 23 = .ok (.ireturn, 1) := by decide +kernel
theorem dX4_setCurrent_0 : decode cX4_setCurrent 0 = .ok (.iload_n 1, 1) := by decide +kernel
theorem dX4_setCurrent_1 : decode cX4_setCurrent 1 = .ok (.iconst 1, 1) := by decide +kernel
theorem dX4_setCurrent_2 : decode cX4_setCurrent 2 = .ok (.bipush 60, 2) := by decide +kernel
theorem dX4_setCurrent_4 : decode cX4_setCurrent 4 = .ok (.invokestatic 57, 3) := by decide +kernel
theorem dX4_setCurrent_7 : decode cX4_setCurrent 7 = .ok (.ifCond .ne 6, 3) := by decide +kernel
theorem dX4_setCurrent_10 : decode cX4_setCurrent 10 = .ok (.bipush (-2), 2) := by decide +kernel
theorem dX4_setCurrent_12 : decode cX4_setCurrent 12 = .ok (.ireturn, 1) := by decide +kernel
theorem dX4_setCurrent_13 : decode cX4_setCurrent 13 = .ok (.aload_n 0, 1) := by decide +kernel
theorem dX4_setCurrent_14 : decode cX4_setCurrent 14 = .ok (.getfield 36, 3) := by decide +kernel
theorem dX4_setCurrent_17 : decode cX4_setCurrent 17 = .ok (.aload_n 0, 1) := by decide +kernel
theorem dX4_setCurrent_18 : decode cX4_setCurrent 18 = .ok (.getfield 10, 3) := by decide +kernel
theorem dX4_setCurrent_21 : decode cX4_setCurrent 21 = .ok (.invokevirtual 61, 3) := by decide +kernel
theorem dX4_setCurrent_24 : decode cX4_setCurrent 24 = .ok (.aload_n 0, 1) := by decide +kernel
theorem dX4_setCurrent_25 : decode cX4_setCurrent 25 = .ok (.getfield 10, 3) := by decide +kernel
theorem dX4_setCurrent_28 : decode cX4_setCurrent 28 = .ok (.getfield 65, 3) := by decide +kernel
theorem dX4_setCurrent_31 : decode cX4_setCurrent 31 = .ok (.istore_n 2, 1) := by decide +kernel
theorem dX4_setCurrent_32 : decode cX4_setCurrent 32 = .ok (.aload_n 0, 1) := by decide +kernel
theorem dX4_setCurrent_33 : decode cX4_setCurrent 33 = .ok (.getfield 10, 3) := by decide +kernel
theorem dX4_setCurrent_36 : decode cX4_setCurrent 36 = .ok (.iload_n 1, 1) := by decide +kernel
theorem dX4_setCurrent_37 : decode cX4_setCurrent 37 = .ok (.putfield 65, 3) := by decide +kernel
theorem dX4_setCurrent_40 : decode cX4_setCurrent 40 = .ok (.iload_n 2, 1) := by decide +kernel
theorem dX4_setCurrent_41 : decode cX4_setCurrent 41 = .ok (.ireturn, 1) := by decide +kernel
theorem dX4_setAsking_0 : decode cX4_setAsking 0 = .ok (.iload_n 1, 1) := by decide +kernel
theorem dX4_setAsking_1 : decode cX4_setAsking 1 = .ok (.iconst 0, 1) := by decide +kernel
theorem dX4_setAsking_2 : decode cX4_setAsking 2 = .ok (.iconst 1, 1) := by decide +kernel
theorem dX4_setAsking_3 : decode cX4_setAsking 3 = .ok (.invokestatic 57, 3) := by decide +kernel
theorem dX4_setAsking_6 : decode cX4_setAsking 6 = .ok (.ifCond .ne 6, 3) := by decide +kernel
theorem dX4_setAsking_9 : decode cX4_setAsking 9 = .ok (.bipush (-2), 2) := by decide +kernel
theorem dX4_setAsking_11 : decode cX4_setAsking 11 = .ok (.ireturn, 1) := by decide +kernel
theorem dX4_setAsking_12 : decode cX4_setAsking 12 = .ok (.aload_n 0, 1) := by decide +kernel
theorem dX4_setAsking_13 : decode cX4_setAsking 13 = .ok (.getfield 36, 3) := by decide +kernel
theorem dX4_setAsking_16 : decode cX4_setAsking 16 = .ok (.aload_n 0, 1) := by decide +kernel
theorem dX4_setAsking_17 : decode cX4_setAsking 17 = .ok (.getfield 10, 3) := by decide +kernel
theorem dX4_setAsking_20 : decode cX4_setAsking 20 = .ok (.invokevirtual 61, 3) := by decide +kernel
theorem dX4_setAsking_23 : decode cX4_setAsking 23 = .ok (.aload_n 0, 1) := by decide +kernel
theorem dX4_setAsking_24 : decode cX4_setAsking 24 = .ok (.getfield 10, 3) := by decide +kernel
theorem dX4_setAsking_27 : decode cX4_setAsking 27 = .ok (.getfield 68, 3) := by decide +kernel
theorem dX4_setAsking_30 : decode cX4_setAsking 30 = .ok (.istore_n 2, 1) := by decide +kernel
theorem dX4_setAsking_31 : decode cX4_setAsking 31 = .ok (.aload_n 0, 1) := by decide +kernel
theorem dX4_setAsking_32 : decode cX4_setAsking 32 = .ok (.getfield 10, 3) := by decide +kernel
theorem dX4_setAsking_35 : decode cX4_setAsking 35 = .ok (.iload_n 1, 1) := by decide +kernel
theorem dX4_setAsking_36 : decode cX4_setAsking 36 = .ok (.putfield 68, 3) := by decide +kernel
theorem dX4_setAsking_39 : decode cX4_setAsking 39 = .ok (.iload_n 2, 1) := by decide +kernel
theorem dX4_setAsking_40 : decode cX4_setAsking 40 = .ok (.ireturn, 1) := by decide +kernel
theorem dX4_build_0 : decode cX4_build 0 = .ok (.iload_n 3, 1) := by decide +kernel
theorem dX4_build_1 : decode cX4_build 1 = .ok (.iconst 1, 1) := by decide +kernel
theorem dX4_build_2 : decode cX4_build 2 = .ok (.bipush 9, 2) := by decide +kernel
theorem dX4_build_4 : decode cX4_build 4 = .ok (.invokestatic 57, 3) := by decide +kernel
theorem dX4_build_7 : decode cX4_build 7 = .ok (.ifCond .eq 14, 3) := by decide +kernel
theorem dX4_build_10 : decode cX4_build 10 = .ok (.iload 4, 2) := by decide +kernel
theorem dX4_build_12 : decode cX4_build 12 = .ok (.iconst 1, 1) := by decide +kernel
theorem dX4_build_13 : decode cX4_build 13 = .ok (.bipush 20, 2) := by decide +kernel
theorem dX4_build_15 : decode cX4_build 15 = .ok (.invokestatic 57, 3) := by decide +kernel
theorem dX4_build_18 : decode cX4_build 18 = .ok (.ifCond .ne 6, 3) := by decide +kernel
theorem dX4_build_21 : decode cX4_build 21 = .ok (.bipush (-2), 2) := by decide +kernel
theorem dX4_build_23 : decode cX4_build 23 = .ok (.ireturn, 1) := by decide +kernel
theorem dX4_build_24 : decode cX4_build 24 = .ok (.aload_n 0, 1) := by decide +kernel
theorem dX4_build_25 : decode cX4_build 25 = .ok (.getfield 10, 3) := by decide +kernel
theorem dX4_build_28 : decode cX4_build 28 = .ok (.getfield 71, 3) := by decide +kernel
theorem dX4_build_31 : decode cX4_build 31 = .ok (.bipush 8, 2) := by decide +kernel
theorem dX4_build_33 : decode cX4_build 33 = .ok (.if_icmp .lt 6, 3) := by decide +kernel
theorem dX4_build_36 : decode cX4_build 36 = .ok (.bipush (-4), 2) := by decide +kernel
theorem dX4_build_38 : decode cX4_build 38 = .ok (.ireturn, 1) := by decide +kernel
theorem dX4_build_39 : decode cX4_build 39 = .ok (.aload_n 0, 1) := by decide +kernel
theorem dX4_build_40 : decode cX4_build 40 = .ok (.getfield 36, 3) := by decide +kernel
theorem dX4_build_43 : decode cX4_build 43 = .ok (.aload_n 0, 1) := by decide +kernel
theorem dX4_build_44 : decode cX4_build 44 = .ok (.getfield 10, 3) := by decide +kernel
theorem dX4_build_47 : decode cX4_build 47 = .ok (.invokevirtual 61, 3) := by decide +kernel
theorem dX4_build_50 : decode cX4_build 50 = .ok (.aload_n 0, 1) := by decide +kernel
theorem dX4_build_51 : decode cX4_build 51 = .ok (.getfield 10, 3) := by decide +kernel
theorem dX4_build_54 : decode cX4_build 54 = .ok (.getfield 71, 3) := by decide +kernel
theorem dX4_build_57 : decode cX4_build 57 = .ok (.istore 5, 2) := by decide +kernel
theorem dX4_build_59 : decode cX4_build 59 = .ok (.aload_n 0, 1) := by decide +kernel
theorem dX4_build_60 : decode cX4_build 60 = .ok (.getfield 10, 3) := by decide +kernel
theorem dX4_build_63 : decode cX4_build 63 = .ok (.iload_n 1, 1) := by decide +kernel
theorem dX4_build_64 : decode cX4_build 64 = .ok (.iload_n 2, 1) := by decide +kernel
theorem dX4_build_65 : decode cX4_build 65 = .ok (.iload_n 3, 1) := by decide +kernel
theorem dX4_build_66 : decode cX4_build 66 = .ok (.iload 4, 2) := by decide +kernel
theorem dX4_build_68 : decode cX4_build 68 = .ok (.iconst 0, 1) := by decide +kernel
theorem dX4_build_69 : decode cX4_build 69 = .ok (.invokevirtual 74, 3) := by decide +kernel
theorem dX4_build_72 : decode cX4_build 72 = .ok (.iload 5, 2) := by decide +kernel
theorem dX4_build_74 : decode cX4_build 74 = .ok (.ireturn, 1) := by decide +kernel
theorem dX4_read_0 : decode cX4_read 0 = .ok (.aload_n 0, 1) := by decide +kernel
theorem dX4_read_1 : decode cX4_read 1 = .ok (.getfield 29, 3) := by decide +kernel
theorem dX4_read_4 : decode cX4_read 4 = .ok (.aload_n 0, 1) := by decide +kernel
theorem dX4_read_5 : decode cX4_read 5 = .ok (.getfield 22, 3) := by decide +kernel
theorem dX4_read_8 : decode cX4_read 8 = .ok (.invokevirtual 78, 3) := by decide +kernel
theorem dX4_read_11 : decode cX4_read 11 = .ok (.bipush (-6), 2) := by decide +kernel
theorem dX4_read_13 : decode cX4_read 13 = .ok (.if_icmp .eq 6, 3) := by decide +kernel
theorem dX4_read_16 : decode cX4_read 16 = .ok (.bipush (-3), 2) := by decide +kernel
theorem dX4_read_18 : decode cX4_read 18 = .ok (.ireturn, 1) := by decide +kernel
theorem dX4_read_19 : decode cX4_read 19 = .ok (.aload_n 0, 1) := by decide +kernel
theorem dX4_read_20 : decode cX4_read 20 = .ok (.getfield 29, 3) := by decide +kernel
theorem dX4_read_23 : decode cX4_read 23 = .ok (.getfield 82, 3) := by decide +kernel
theorem dX4_read_26 : decode cX4_read 26 = .ok (.astore_n 1, 1) := by decide +kernel
theorem dX4_read_27 : decode cX4_read 27 = .ok (.aload_n 1, 1) := by decide +kernel
theorem dX4_read_28 : decode cX4_read 28 = .ok (.invokevirtual 83, 3) := by decide +kernel
theorem dX4_read_31 : decode cX4_read 31 = .ok (.ifCond .ne 5, 3) := by decide +kernel
theorem dX4_read_34 : decode cX4_read 34 = .ok (.iconst (-1), 1) := by decide +kernel
theorem dX4_read_35 : decode cX4_read 35 = .ok (.ireturn, 1) := by decide +kernel
theorem dX4_read_36 : decode cX4_read 36 = .ok (.aload_n 0, 1) := by decide +kernel
theorem dX4_read_37 : decode cX4_read 37 = .ok (.getfield 36, 3) := by decide +kernel
theorem dX4_read_40 : decode cX4_read 40 = .ok (.aload_n 0, 1) := by decide +kernel
theorem dX4_read_41 : decode cX4_read 41 = .ok (.getfield 10, 3) := by decide +kernel
theorem dX4_read_44 : decode cX4_read 44 = .ok (.invokevirtual 61, 3) := by decide +kernel
theorem dX4_read_47 : decode cX4_read 47 = .ok (.aload_n 1, 1) := by decide +kernel
theorem dX4_read_48 : decode cX4_read 48 = .ok (.aload_n 0, 1) := by decide +kernel
theorem dX4_read_49 : decode cX4_read 49 = .ok (.getfield 10, 3) := by decide +kernel
theorem dX4_read_52 : decode cX4_read 52 = .ok (.getfield 65, 3) := by decide +kernel
theorem dX4_read_55 : decode cX4_read 55 = .ok (.putfield 65, 3) := by decide +kernel
theorem dX4_read_58 : decode cX4_read 58 = .ok (.aload_n 1, 1) := by decide +kernel
theorem dX4_read_59 : decode cX4_read 59 = .ok (.aload_n 0, 1) := by decide +kernel
theorem dX4_read_60 : decode cX4_read 60 = .ok (.getfield 10, 3) := by decide +kernel
theorem dX4_read_63 : decode cX4_read 63 = .ok (.getfield 68, 3) := by decide +kernel
theorem dX4_read_66 : decode cX4_read 66 = .ok (.putfield 68, 3) := by decide +kernel
theorem dX4_read_69 : decode cX4_read 69 = .ok (.aload_n 0, 1) := by decide +kernel
theorem dX4_read_70 : decode cX4_read 70 = .ok (.getfield 10, 3) := by decide +kernel
theorem dX4_read_73 : decode cX4_read 73 = .ok (.aload_n 1, 1) := by decide +kernel
theorem dX4_read_74 : decode cX4_read 74 = .ok (.invokevirtual 87, 3) := by decide +kernel
theorem dX4_read_77 : decode cX4_read 77 = .ok (.aload_n 0, 1) := by decide +kernel
theorem dX4_read_78 : decode cX4_read 78 = .ok (.getfield 22, 3) := by decide +kernel
theorem dX4_read_81 : decode cX4_read 81 = .ok (.iconst 0, 1) := by decide +kernel
theorem dX4_read_82 : decode cX4_read 82 = .ok (.putfield 90, 3) := by decide +kernel
theorem dX4_read_85 : decode cX4_read 85 = .ok (.aload_n 0, 1) := by decide +kernel
theorem dX4_read_86 : decode cX4_read 86 = .ok (.getfield 10, 3) := by decide +kernel
theorem dX4_read_89 : decode cX4_read 89 = .ok (.getfield 71, 3) := by decide +kernel
theorem dX4_read_92 : decode cX4_read 92 = .ok (.ireturn, 1) := by decide +kernel
theorem dX4_link_0 : decode cX4_link 0 = .ok (.aload_n 0, 1) := by decide +kernel
theorem dX4_link_1 : decode cX4_link 1 = .ok (.getfield 10, 3) := by decide +kernel
theorem dX4_link_4 : decode cX4_link 4 = .ok (.iload_n 1, 1) := by decide +kernel
theorem dX4_link_5 : decode cX4_link 5 = .ok (.invokevirtual 93, 3) := by decide +kernel
theorem dX4_link_8 : decode cX4_link 8 = .ok (.ifCond .eq 14, 3) := by decide +kernel
theorem dX4_link_11 : decode cX4_link 11 = .ok (.aload_n 0, 1) := by decide +kernel
theorem dX4_link_12 : decode cX4_link 12 = .ok (.getfield 10, 3) := by decide +kernel
theorem dX4_link_15 : decode cX4_link 15 = .ok (.iload_n 2, 1) := by decide +kernel
theorem dX4_link_16 : decode cX4_link 16 = .ok (.invokevirtual 93, 3) := by decide +kernel
theorem dX4_link_19 : decode cX4_link 19 = .ok (.ifCond .ne 5, 3) := by decide +kernel
theorem dX4_link_22 : decode cX4_link 22 = .ok (.iconst (-1), 1) := by decide +kernel
theorem dX4_link_23 : decode cX4_link 23 = .ok (.ireturn, 1) := by decide +kernel
theorem dX4_link_24 : decode cX4_link 24 = .ok (.iload_n 1, 1) := by decide +kernel
theorem dX4_link_25 : decode cX4_link 25 = .ok (.iload_n 2, 1) := by decide +kernel
theorem dX4_link_26 : decode cX4_link 26 = .ok (.if_icmp .ne 6, 3) := by decide +kernel
theorem dX4_link_29 : decode cX4_link 29 = .ok (.bipush (-2), 2) := by decide +kernel
theorem dX4_link_31 : decode cX4_link 31 = .ok (.ireturn, 1) := by decide +kernel
theorem dX4_link_32 : decode cX4_link 32 = .ok (.aload_n 0, 1) := by decide +kernel
theorem dX4_link_33 : decode cX4_link 33 = .ok (.getfield 10, 3) := by decide +kernel
theorem dX4_link_36 : decode cX4_link 36 = .ok (.getfield 97, 3) := by decide +kernel
theorem dX4_link_39 : decode cX4_link 39 = .ok (.iload_n 1, 1) := by decide +kernel
theorem dX4_link_40 : decode cX4_link 40 = .ok (.iaload, 1) := by decide +kernel
theorem dX4_link_41 : decode cX4_link 41 = .ok (.iload_n 2, 1) := by decide +kernel
theorem dX4_link_42 : decode cX4_link 42 = .ok (.invokestatic 101, 3) := by decide +kernel
theorem dX4_link_45 : decode cX4_link 45 = .ok (.iload_n 3, 1) := by decide +kernel
theorem dX4_link_46 : decode cX4_link 46 = .ok (.if_icmp .ne 6, 3) := by decide +kernel
theorem dX4_link_49 : decode cX4_link 49 = .ok (.bipush (-5), 2) := by decide +kernel
theorem dX4_link_51 : decode cX4_link 51 = .ok (.ireturn, 1) := by decide +kernel
theorem dX4_link_52 : decode cX4_link 52 = .ok (.aload_n 0, 1) := by decide +kernel
theorem dX4_link_53 : decode cX4_link 53 = .ok (.getfield 36, 3) := by decide +kernel
theorem dX4_link_56 : decode cX4_link 56 = .ok (.aload_n 0, 1) := by decide +kernel
theorem dX4_link_57 : decode cX4_link 57 = .ok (.getfield 10, 3) := by decide +kernel
theorem dX4_link_60 : decode cX4_link 60 = .ok (.invokevirtual 61, 3) := by decide +kernel
theorem dX4_link_63 : decode cX4_link 63 = .ok (.aload_n 0, 1) := by decide +kernel
theorem dX4_link_64 : decode cX4_link 64 = .ok (.getfield 10, 3) := by decide +kernel
theorem dX4_link_67 : decode cX4_link 67 = .ok (.getfield 97, 3) := by decide +kernel
theorem dX4_link_70 : decode cX4_link 70 = .ok (.iload_n 1, 1) := by decide +kernel
theorem dX4_link_71 : decode cX4_link 71 = .ok (.dup2, 1) := by decide +kernel
theorem dX4_link_72 : decode cX4_link 72 = .ok (.iaload, 1) := by decide +kernel
theorem dX4_link_73 : decode cX4_link 73 = .ok (.iconst 1, 1) := by decide +kernel
theorem dX4_link_74 : decode cX4_link 74 = .ok (.iload_n 2, 1) := by decide +kernel
theorem dX4_link_75 : decode cX4_link 75 = .ok (.ishl, 1) := by decide +kernel
theorem dX4_link_76 : decode cX4_link 76 = .ok (.ixor, 1) := by decide +kernel
theorem dX4_link_77 : decode cX4_link 77 = .ok (.iastore, 1) := by decide +kernel
theorem dX4_link_78 : decode cX4_link 78 = .ok (.aload_n 0, 1) := by decide +kernel
theorem dX4_link_79 : decode cX4_link 79 = .ok (.getfield 10, 3) := by decide +kernel
theorem dX4_link_82 : decode cX4_link 82 = .ok (.getfield 97, 3) := by decide +kernel
theorem dX4_link_85 : decode cX4_link 85 = .ok (.iload_n 1, 1) := by decide +kernel
theorem dX4_link_86 : decode cX4_link 86 = .ok (.iaload, 1) := by decide +kernel
theorem dX4_link_87 : decode cX4_link 87 = .ok (.ireturn, 1) := by decide +kernel
theorem dX4_value_0 : decode cX4_value 0 = .ok (.aload_n 0, 1) := by decide +kernel
theorem dX4_value_1 : decode cX4_value 1 = .ok (.getfield 10, 3) := by decide +kernel
theorem dX4_value_4 : decode cX4_value 4 = .ok (.iload_n 1, 1) := by decide +kernel
theorem dX4_value_5 : decode cX4_value 5 = .ok (.invokevirtual 93, 3) := by decide +kernel
theorem dX4_value_8 : decode cX4_value 8 = .ok (.ifCond .ne 5, 3) := by decide +kernel
theorem dX4_value_11 : decode cX4_value 11 = .ok (.iconst (-1), 1) := by decide +kernel
theorem dX4_value_12 : decode cX4_value 12 = .ok (.ireturn, 1) := by decide +kernel
theorem dX4_value_13 : decode cX4_value 13 = .ok (.iload_n 2, 1) := by decide +kernel
theorem dX4_value_14 : decode cX4_value 14 = .ok (.iconst 0, 1) := by decide +kernel
theorem dX4_value_15 : decode cX4_value 15 = .ok (.sipush 255, 3) := by decide +kernel
theorem dX4_value_18 : decode cX4_value 18 = .ok (.invokestatic 57, 3) := by decide +kernel
theorem dX4_value_21 : decode cX4_value 21 = .ok (.ifCond .ne 6, 3) := by decide +kernel
theorem dX4_value_24 : decode cX4_value 24 = .ok (.bipush (-2), 2) := by decide +kernel
theorem dX4_value_26 : decode cX4_value 26 = .ok (.ireturn, 1) := by decide +kernel
theorem dX4_value_27 : decode cX4_value 27 = .ok (.aload_n 0, 1) := by decide +kernel
theorem dX4_value_28 : decode cX4_value 28 = .ok (.getfield 10, 3) := by decide +kernel
theorem dX4_value_31 : decode cX4_value 31 = .ok (.getfield 105, 3) := by decide +kernel
theorem dX4_value_34 : decode cX4_value 34 = .ok (.iload_n 1, 1) := by decide +kernel
theorem dX4_value_35 : decode cX4_value 35 = .ok (.iaload, 1) := by decide +kernel
theorem dX4_value_36 : decode cX4_value 36 = .ok (.ifCond .eq 6, 3) := by decide +kernel
theorem dX4_value_39 : decode cX4_value 39 = .ok (.bipush (-5), 2) := by decide +kernel
theorem dX4_value_41 : decode cX4_value 41 = .ok (.ireturn, 1) := by decide +kernel
theorem dX4_value_42 : decode cX4_value 42 = .ok (.aload_n 0, 1) := by decide +kernel
theorem dX4_value_43 : decode cX4_value 43 = .ok (.getfield 36, 3) := by decide +kernel
theorem dX4_value_46 : decode cX4_value 46 = .ok (.aload_n 0, 1) := by decide +kernel
theorem dX4_value_47 : decode cX4_value 47 = .ok (.getfield 10, 3) := by decide +kernel
theorem dX4_value_50 : decode cX4_value 50 = .ok (.invokevirtual 61, 3) := by decide +kernel
theorem dX4_value_53 : decode cX4_value 53 = .ok (.aload_n 0, 1) := by decide +kernel
theorem dX4_value_54 : decode cX4_value 54 = .ok (.getfield 10, 3) := by decide +kernel
theorem dX4_value_57 : decode cX4_value 57 = .ok (.getfield 108, 3) := by decide +kernel
theorem dX4_value_60 : decode cX4_value 60 = .ok (.iload_n 1, 1) := by decide +kernel
theorem dX4_value_61 : decode cX4_value 61 = .ok (.iaload, 1) := by decide +kernel
theorem dX4_value_62 : decode cX4_value 62 = .ok (.istore_n 3, 1) := by decide +kernel
theorem dX4_value_63 : decode cX4_value 63 = .ok (.aload_n 0, 1) := by decide +kernel
theorem dX4_value_64 : decode cX4_value 64 = .ok (.getfield 10, 3) := by decide +kernel
theorem dX4_value_67 : decode cX4_value 67 = .ok (.getfield 108, 3) := by decide +kernel
theorem dX4_value_70 : decode cX4_value 70 = .ok (.iload_n 1, 1) := by decide +kernel
theorem dX4_value_71 : decode cX4_value 71 = .ok (.iload_n 2, 1) := by decide +kernel
theorem dX4_value_72 : decode cX4_value 72 = .ok (.iastore, 1) := by decide +kernel
theorem dX4_value_73 : decode cX4_value 73 = .ok (.iload_n 3, 1) := by decide +kernel
theorem dX4_value_74 : decode cX4_value 74 = .ok (.ireturn, 1) := by decide +kernel
theorem dX4_sleep_0 : decode cX4_sleep 0 = .ok (.aload_n 0, 1) := by decide +kernel
theorem dX4_sleep_1 : decode cX4_sleep 1 = .ok (.getfield 10, 3) := by decide +kernel
theorem dX4_sleep_4 : decode cX4_sleep 4 = .ok (.iload_n 1, 1) := by decide +kernel
theorem dX4_sleep_5 : decode cX4_sleep 5 = .ok (.invokevirtual 93, 3) := by decide +kernel
theorem dX4_sleep_8 : decode cX4_sleep 8 = .ok (.ifCond .ne 5, 3) := by decide +kernel
theorem dX4_sleep_11 : decode cX4_sleep 11 = .ok (.iconst (-1), 1) := by decide +kernel
theorem dX4_sleep_12 : decode cX4_sleep 12 = .ok (.ireturn, 1) := by decide +kernel
theorem dX4_sleep_13 : decode cX4_sleep 13 = .ok (.aload_n 0, 1) := by decide +kernel
theorem dX4_sleep_14 : decode cX4_sleep 14 = .ok (.getfield 10, 3) := by decide +kernel
theorem dX4_sleep_17 : decode cX4_sleep 17 = .ok (.getfield 105, 3) := by decide +kernel
theorem dX4_sleep_20 : decode cX4_sleep 20 = .ok (.iload_n 1, 1) := by decide +kernel
theorem dX4_sleep_21 : decode cX4_sleep 21 = .ok (.iaload, 1) := by decide +kernel
theorem dX4_sleep_22 : decode cX4_sleep 22 = .ok (.ifCond .eq 6, 3) := by decide +kernel
theorem dX4_sleep_25 : decode cX4_sleep 25 = .ok (.bipush (-5), 2) := by decide +kernel
theorem dX4_sleep_27 : decode cX4_sleep 27 = .ok (.ireturn, 1) := by decide +kernel
theorem dX4_sleep_28 : decode cX4_sleep 28 = .ok (.aload_n 0, 1) := by decide +kernel
theorem dX4_sleep_29 : decode cX4_sleep 29 = .ok (.getfield 36, 3) := by decide +kernel
theorem dX4_sleep_32 : decode cX4_sleep 32 = .ok (.aload_n 0, 1) := by decide +kernel
theorem dX4_sleep_33 : decode cX4_sleep 33 = .ok (.getfield 10, 3) := by decide +kernel
theorem dX4_sleep_36 : decode cX4_sleep 36 = .ok (.invokevirtual 61, 3) := by decide +kernel
theorem dX4_sleep_39 : decode cX4_sleep 39 = .ok (.aload_n 0, 1) := by decide +kernel
theorem dX4_sleep_40 : decode cX4_sleep 40 = .ok (.getfield 10, 3) := by decide +kernel
theorem dX4_sleep_43 : decode cX4_sleep 43 = .ok (.getfield 105, 3) := by decide +kernel
theorem dX4_sleep_46 : decode cX4_sleep 46 = .ok (.iload_n 1, 1) := by decide +kernel
theorem dX4_sleep_47 : decode cX4_sleep 47 = .ok (.iconst 1, 1) := by decide +kernel
theorem dX4_sleep_48 : decode cX4_sleep 48 = .ok (.iastore, 1) := by decide +kernel
theorem dX4_sleep_49 : decode cX4_sleep 49 = .ok (.aload_n 0, 1) := by decide +kernel
theorem dX4_sleep_50 : decode cX4_sleep 50 = .ok (.getfield 10, 3) := by decide +kernel
theorem dX4_sleep_53 : decode cX4_sleep 53 = .ok (.iload_n 1, 1) := by decide +kernel
theorem dX4_sleep_54 : decode cX4_sleep 54 = .ok (.invokevirtual 111, 3) := by decide +kernel
theorem dX4_sleep_57 : decode cX4_sleep 57 = .ok (.aload_n 0, 1) := by decide +kernel
theorem dX4_sleep_58 : decode cX4_sleep 58 = .ok (.getfield 10, 3) := by decide +kernel
theorem dX4_sleep_61 : decode cX4_sleep 61 = .ok (.iconst 0, 1) := by decide +kernel
theorem dX4_sleep_62 : decode cX4_sleep 62 = .ok (.invokevirtual 114, 3) := by decide +kernel
theorem dX4_sleep_65 : decode cX4_sleep 65 = .ok (.iand, 1) := by decide +kernel
theorem dX4_sleep_66 : decode cX4_sleep 66 = .ok (.invokestatic 117, 3) := by decide +kernel
theorem dX4_sleep_69 : decode cX4_sleep 69 = .ok (.ireturn, 1) := by decide +kernel
theorem dX4_wake_0 : decode cX4_wake 0 = .ok (.aload_n 0, 1) := by decide +kernel
theorem dX4_wake_1 : decode cX4_wake 1 = .ok (.getfield 10, 3) := by decide +kernel
theorem dX4_wake_4 : decode cX4_wake 4 = .ok (.iload_n 1, 1) := by decide +kernel
theorem dX4_wake_5 : decode cX4_wake 5 = .ok (.invokevirtual 93, 3) := by decide +kernel
theorem dX4_wake_8 : decode cX4_wake 8 = .ok (.ifCond .ne 5, 3) := by decide +kernel
theorem dX4_wake_11 : decode cX4_wake 11 = .ok (.iconst (-1), 1) := by decide +kernel
theorem dX4_wake_12 : decode cX4_wake 12 = .ok (.ireturn, 1) := by decide +kernel
theorem dX4_wake_13 : decode cX4_wake 13 = .ok (.aload_n 0, 1) := by decide +kernel
theorem dX4_wake_14 : decode cX4_wake 14 = .ok (.getfield 10, 3) := by decide +kernel
theorem dX4_wake_17 : decode cX4_wake 17 = .ok (.getfield 105, 3) := by decide +kernel
theorem dX4_wake_20 : decode cX4_wake 20 = .ok (.iload_n 1, 1) := by decide +kernel
theorem dX4_wake_21 : decode cX4_wake 21 = .ok (.iaload, 1) := by decide +kernel
theorem dX4_wake_22 : decode cX4_wake 22 = .ok (.iconst 2, 1) := by decide +kernel
theorem dX4_wake_23 : decode cX4_wake 23 = .ok (.if_icmp .eq 6, 3) := by decide +kernel
theorem dX4_wake_26 : decode cX4_wake 26 = .ok (.bipush (-5), 2) := by decide +kernel
theorem dX4_wake_28 : decode cX4_wake 28 = .ok (.ireturn, 1) := by decide +kernel
theorem dX4_wake_29 : decode cX4_wake 29 = .ok (.aload_n 0, 1) := by decide +kernel
theorem dX4_wake_30 : decode cX4_wake 30 = .ok (.getfield 36, 3) := by decide +kernel
theorem dX4_wake_33 : decode cX4_wake 33 = .ok (.aload_n 0, 1) := by decide +kernel
theorem dX4_wake_34 : decode cX4_wake 34 = .ok (.getfield 10, 3) := by decide +kernel
theorem dX4_wake_37 : decode cX4_wake 37 = .ok (.invokevirtual 61, 3) := by decide +kernel
theorem dX4_wake_40 : decode cX4_wake 40 = .ok (.aload_n 0, 1) := by decide +kernel
theorem dX4_wake_41 : decode cX4_wake 41 = .ok (.getfield 10, 3) := by decide +kernel
theorem dX4_wake_44 : decode cX4_wake 44 = .ok (.iload_n 1, 1) := by decide +kernel
theorem dX4_wake_45 : decode cX4_wake 45 = .ok (.invokevirtual 122, 3) := by decide +kernel
theorem dX4_wake_48 : decode cX4_wake 48 = .ok (.aload_n 0, 1) := by decide +kernel
theorem dX4_wake_49 : decode cX4_wake 49 = .ok (.getfield 10, 3) := by decide +kernel
theorem dX4_wake_52 : decode cX4_wake 52 = .ok (.getfield 126, 3) := by decide +kernel
theorem dX4_wake_55 : decode cX4_wake 55 = .ok (.ireturn, 1) := by decide +kernel
theorem dX4_pass_0 : decode cX4_pass 0 = .ok (.iload_n 1, 1) := by decide +kernel
theorem dX4_pass_1 : decode cX4_pass 1 = .ok (.iconst 1, 1) := by decide +kernel
theorem dX4_pass_2 : decode cX4_pass 2 = .ok (.sipush 200, 3) := by decide +kernel
theorem dX4_pass_5 : decode cX4_pass 5 = .ok (.invokestatic 57, 3) := by decide +kernel
theorem dX4_pass_8 : decode cX4_pass 8 = .ok (.ifCond .ne 6, 3) := by decide +kernel
theorem dX4_pass_11 : decode cX4_pass 11 = .ok (.bipush (-2), 2) := by decide +kernel
theorem dX4_pass_13 : decode cX4_pass 13 = .ok (.ireturn, 1) := by decide +kernel
theorem dX4_pass_14 : decode cX4_pass 14 = .ok (.aload_n 0, 1) := by decide +kernel
theorem dX4_pass_15 : decode cX4_pass 15 = .ok (.getfield 36, 3) := by decide +kernel
theorem dX4_pass_18 : decode cX4_pass 18 = .ok (.aload_n 0, 1) := by decide +kernel
theorem dX4_pass_19 : decode cX4_pass 19 = .ok (.getfield 10, 3) := by decide +kernel
theorem dX4_pass_22 : decode cX4_pass 22 = .ok (.invokevirtual 61, 3) := by decide +kernel
theorem dX4_pass_25 : decode cX4_pass 25 = .ok (.aload_n 0, 1) := by decide +kernel
theorem dX4_pass_26 : decode cX4_pass 26 = .ok (.getfield 10, 3) := by decide +kernel
theorem dX4_pass_29 : decode cX4_pass 29 = .ok (.invokevirtual 129, 3) := by decide +kernel
theorem dX4_pass_32 : decode cX4_pass 32 = .ok (.istore_n 2, 1) := by decide +kernel
theorem dX4_pass_33 : decode cX4_pass 33 = .ok (.aload_n 0, 1) := by decide +kernel
theorem dX4_pass_34 : decode cX4_pass 34 = .ok (.getfield 10, 3) := by decide +kernel
theorem dX4_pass_37 : decode cX4_pass 37 = .ok (.iload_n 1, 1) := by decide +kernel
theorem dX4_pass_38 : decode cX4_pass 38 = .ok (.invokevirtual 133, 3) := by decide +kernel
theorem dX4_pass_41 : decode cX4_pass 41 = .ok (.aload_n 0, 1) := by decide +kernel
theorem dX4_pass_42 : decode cX4_pass 42 = .ok (.getfield 10, 3) := by decide +kernel
theorem dX4_pass_45 : decode cX4_pass 45 = .ok (.invokevirtual 129, 3) := by decide +kernel
theorem dX4_pass_48 : decode cX4_pass 48 = .ok (.iload_n 2, 1) := by decide +kernel
theorem dX4_pass_49 : decode cX4_pass 49 = .ok (.isub, 1) := by decide +kernel
theorem dX4_pass_50 : decode cX4_pass 50 = .ok (.ireturn, 1) := by decide +kernel
theorem dX4_of_0 : decode cX4_of 0 = .ok (.aload_n 0, 1) := by decide +kernel
theorem dX4_of_1 : decode cX4_of 1 = .ok (.getfield 10, 3) := by decide +kernel
theorem dX4_of_4 : decode cX4_of 4 = .ok (.iload_n 1, 1) := by decide +kernel
theorem dX4_of_5 : decode cX4_of 5 = .ok (.invokevirtual 93, 3) := by decide +kernel
theorem dX4_of_8 : decode cX4_of 8 = .ok (.ifCond .ne 5, 3) := by decide +kernel
theorem dX4_of_11 : decode cX4_of 11 = .ok (.iconst (-1), 1) := by decide +kernel
theorem dX4_of_12 : decode cX4_of 12 = .ok (.ireturn, 1) := by decide +kernel
theorem dX4_of_13 : decode cX4_of 13 = .ok (.iload_n 2, 1) := by decide +kernel
theorem dX4_of_14 : decode cX4_of 14 = .ok (.tableswitch 213 0 12 #[66, 76, 86, 96, 116, 136, 146, 156, 166, 175, 184, 194, 203], 66) := by decide +kernel
theorem dX4_of_80 : decode cX4_of 80 = .ok (.aload_n 0, 1) := by decide +kernel
theorem dX4_of_81 : decode cX4_of 81 = .ok (.getfield 10, 3) := by decide +kernel
theorem dX4_of_84 : decode cX4_of 84 = .ok (.getfield 105, 3) := by decide +kernel
theorem dX4_of_87 : decode cX4_of 87 = .ok (.iload_n 1, 1) := by decide +kernel
theorem dX4_of_88 : decode cX4_of 88 = .ok (.iaload, 1) := by decide +kernel
theorem dX4_of_89 : decode cX4_of 89 = .ok (.ireturn, 1) := by decide +kernel
theorem dX4_of_90 : decode cX4_of 90 = .ok (.aload_n 0, 1) := by decide +kernel
theorem dX4_of_91 : decode cX4_of 91 = .ok (.getfield 10, 3) := by decide +kernel
theorem dX4_of_94 : decode cX4_of 94 = .ok (.getfield 108, 3) := by decide +kernel
theorem dX4_of_97 : decode cX4_of 97 = .ok (.iload_n 1, 1) := by decide +kernel
theorem dX4_of_98 : decode cX4_of 98 = .ok (.iaload, 1) := by decide +kernel
theorem dX4_of_99 : decode cX4_of 99 = .ok (.ireturn, 1) := by decide +kernel
theorem dX4_of_100 : decode cX4_of 100 = .ok (.aload_n 0, 1) := by decide +kernel
theorem dX4_of_101 : decode cX4_of 101 = .ok (.getfield 10, 3) := by decide +kernel
theorem dX4_of_104 : decode cX4_of 104 = .ok (.getfield 136, 3) := by decide +kernel
theorem dX4_of_107 : decode cX4_of 107 = .ok (.iload_n 1, 1) := by decide +kernel
theorem dX4_of_108 : decode cX4_of 108 = .ok (.iaload, 1) := by decide +kernel
theorem dX4_of_109 : decode cX4_of 109 = .ok (.ireturn, 1) := by decide +kernel
theorem dX4_of_110 : decode cX4_of 110 = .ok (.aload_n 0, 1) := by decide +kernel
theorem dX4_of_111 : decode cX4_of 111 = .ok (.getfield 10, 3) := by decide +kernel
theorem dX4_of_114 : decode cX4_of 114 = .ok (.getfield 139, 3) := by decide +kernel
theorem dX4_of_117 : decode cX4_of 117 = .ok (.iload_n 1, 1) := by decide +kernel
theorem dX4_of_118 : decode cX4_of 118 = .ok (.invokestatic 101, 3) := by decide +kernel
theorem dX4_of_121 : decode cX4_of 121 = .ok (.ifCond .eq 7, 3) := by decide +kernel
theorem dX4_of_124 : decode cX4_of 124 = .ok (.iconst 1, 1) := by decide +kernel
theorem dX4_of_125 : decode cX4_of 125 = .ok (.goto 4, 3) := by decide +kernel
theorem dX4_of_128 : decode cX4_of 128 = .ok (.iconst 0, 1) := by decide +kernel
theorem dX4_of_129 : decode cX4_of 129 = .ok (.ireturn, 1) := by decide +kernel
theorem dX4_of_130 : decode cX4_of 130 = .ok (.aload_n 0, 1) := by decide +kernel
theorem dX4_of_131 : decode cX4_of 131 = .ok (.getfield 10, 3) := by decide +kernel
theorem dX4_of_134 : decode cX4_of 134 = .ok (.getfield 142, 3) := by decide +kernel
theorem dX4_of_137 : decode cX4_of 137 = .ok (.iload_n 1, 1) := by decide +kernel
theorem dX4_of_138 : decode cX4_of 138 = .ok (.invokestatic 101, 3) := by decide +kernel
theorem dX4_of_141 : decode cX4_of 141 = .ok (.ifCond .eq 7, 3) := by decide +kernel
theorem dX4_of_144 : decode cX4_of 144 = .ok (.iconst 1, 1) := by decide +kernel
theorem dX4_of_145 : decode cX4_of 145 = .ok (.goto 4, 3) := by decide +kernel
theorem dX4_of_148 : decode cX4_of 148 = .ok (.iconst 0, 1) := by decide +kernel
theorem dX4_of_149 : decode cX4_of 149 = .ok (.ireturn, 1) := by decide +kernel
theorem dX4_of_150 : decode cX4_of 150 = .ok (.aload_n 0, 1) := by decide +kernel
theorem dX4_of_151 : decode cX4_of 151 = .ok (.getfield 10, 3) := by decide +kernel
theorem dX4_of_154 : decode cX4_of 154 = .ok (.getfield 145, 3) := by decide +kernel
theorem dX4_of_157 : decode cX4_of 157 = .ok (.iload_n 1, 1) := by decide +kernel
theorem dX4_of_158 : decode cX4_of 158 = .ok (.iaload, 1) := by decide +kernel
theorem dX4_of_159 : decode cX4_of 159 = .ok (.ireturn, 1) := by decide +kernel
theorem dX4_of_160 : decode cX4_of 160 = .ok (.aload_n 0, 1) := by decide +kernel
theorem dX4_of_161 : decode cX4_of 161 = .ok (.getfield 10, 3) := by decide +kernel
theorem dX4_of_164 : decode cX4_of 164 = .ok (.getfield 148, 3) := by decide +kernel
theorem dX4_of_167 : decode cX4_of 167 = .ok (.iload_n 1, 1) := by decide +kernel
theorem dX4_of_168 : decode cX4_of 168 = .ok (.iaload, 1) := by decide +kernel
theorem dX4_of_169 : decode cX4_of 169 = .ok (.ireturn, 1) := by decide +kernel
theorem dX4_of_170 : decode cX4_of 170 = .ok (.aload_n 0, 1) := by decide +kernel
theorem dX4_of_171 : decode cX4_of 171 = .ok (.getfield 10, 3) := by decide +kernel
theorem dX4_of_174 : decode cX4_of 174 = .ok (.getfield 97, 3) := by decide +kernel
theorem dX4_of_177 : decode cX4_of 177 = .ok (.iload_n 1, 1) := by decide +kernel
theorem dX4_of_178 : decode cX4_of 178 = .ok (.iaload, 1) := by decide +kernel
theorem dX4_of_179 : decode cX4_of 179 = .ok (.ireturn, 1) := by decide +kernel
theorem dX4_of_180 : decode cX4_of 180 = .ok (.aload_n 0, 1) := by decide +kernel
theorem dX4_of_181 : decode cX4_of 181 = .ok (.getfield 10, 3) := by decide +kernel
theorem dX4_of_184 : decode cX4_of 184 = .ok (.iload_n 1, 1) := by decide +kernel
theorem dX4_of_185 : decode cX4_of 185 = .ok (.invokevirtual 111, 3) := by decide +kernel
theorem dX4_of_188 : decode cX4_of 188 = .ok (.ireturn, 1) := by decide +kernel
theorem dX4_of_189 : decode cX4_of 189 = .ok (.aload_n 0, 1) := by decide +kernel
theorem dX4_of_190 : decode cX4_of 190 = .ok (.getfield 10, 3) := by decide +kernel
theorem dX4_of_193 : decode cX4_of 193 = .ok (.iload_n 1, 1) := by decide +kernel
theorem dX4_of_194 : decode cX4_of 194 = .ok (.invokevirtual 151, 3) := by decide +kernel
theorem dX4_of_197 : decode cX4_of 197 = .ok (.ireturn, 1) := by decide +kernel
theorem dX4_of_198 : decode cX4_of 198 = .ok (.aload_n 0, 1) := by decide +kernel
theorem dX4_of_199 : decode cX4_of 199 = .ok (.getfield 10, 3) := by decide +kernel
theorem dX4_of_202 : decode cX4_of 202 = .ok (.getfield 154, 3) := by decide +kernel
theorem dX4_of_205 : decode cX4_of 205 = .ok (.iload_n 1, 1) := by decide +kernel
theorem dX4_of_206 : decode cX4_of 206 = .ok (.iaload, 1) := by decide +kernel
theorem dX4_of_207 : decode cX4_of 207 = .ok (.ireturn, 1) := by decide +kernel
theorem dX4_of_208 : decode cX4_of 208 = .ok (.aload_n 0, 1) := by decide +kernel
theorem dX4_of_209 : decode cX4_of 209 = .ok (.getfield 10, 3) := by decide +kernel
theorem dX4_of_212 : decode cX4_of 212 = .ok (.iload_n 1, 1) := by decide +kernel
theorem dX4_of_213 : decode cX4_of 213 = .ok (.invokevirtual 157, 3) := by decide +kernel
theorem dX4_of_216 : decode cX4_of 216 = .ok (.ireturn, 1) := by decide +kernel
theorem dX4_of_217 : decode cX4_of 217 = .ok (.aload_n 0, 1) := by decide +kernel
theorem dX4_of_218 : decode cX4_of 218 = .ok (.getfield 10, 3) := by decide +kernel
theorem dX4_of_221 : decode cX4_of 221 = .ok (.getfield 160, 3) := by decide +kernel
theorem dX4_of_224 : decode cX4_of 224 = .ok (.iload_n 1, 1) := by decide +kernel
theorem dX4_of_225 : decode cX4_of 225 = .ok (.iaload, 1) := by decide +kernel
theorem dX4_of_226 : decode cX4_of 226 = .ok (.ireturn, 1) := by decide +kernel
theorem dX4_of_227 : decode cX4_of 227 = .ok (.bipush (-2), 2) := by decide +kernel
theorem dX4_of_229 : decode cX4_of 229 = .ok (.ireturn, 1) := by decide +kernel
theorem dX4_count_0 : decode cX4_count 0 = .ok (.iload_n 1, 1) := by decide +kernel
theorem dX4_count_1 : decode cX4_count 1 = .ok (.tableswitch 187 0 13 #[71, 79, 88, 97, 106, 115, 123, 131, 139, 147, 155, 163, 171, 179], 71) := by decide +kernel
theorem dX4_count_72 : decode cX4_count 72 = .ok (.aload_n 0, 1) := by decide +kernel
theorem dX4_count_73 : decode cX4_count 73 = .ok (.getfield 10, 3) := by decide +kernel
theorem dX4_count_76 : decode cX4_count 76 = .ok (.getfield 71, 3) := by decide +kernel
theorem dX4_count_79 : decode cX4_count 79 = .ok (.ireturn, 1) := by decide +kernel
theorem dX4_count_80 : decode cX4_count 80 = .ok (.aload_n 0, 1) := by decide +kernel
theorem dX4_count_81 : decode cX4_count 81 = .ok (.getfield 10, 3) := by decide +kernel
theorem dX4_count_84 : decode cX4_count 84 = .ok (.iconst 0, 1) := by decide +kernel
theorem dX4_count_85 : decode cX4_count 85 = .ok (.invokevirtual 114, 3) := by decide +kernel
theorem dX4_count_88 : decode cX4_count 88 = .ok (.ireturn, 1) := by decide +kernel
theorem dX4_count_89 : decode cX4_count 89 = .ok (.aload_n 0, 1) := by decide +kernel
theorem dX4_count_90 : decode cX4_count 90 = .ok (.getfield 10, 3) := by decide +kernel
theorem dX4_count_93 : decode cX4_count 93 = .ok (.iconst 2, 1) := by decide +kernel
theorem dX4_count_94 : decode cX4_count 94 = .ok (.invokevirtual 114, 3) := by decide +kernel
theorem dX4_count_97 : decode cX4_count 97 = .ok (.ireturn, 1) := by decide +kernel
theorem dX4_count_98 : decode cX4_count 98 = .ok (.aload_n 0, 1) := by decide +kernel
theorem dX4_count_99 : decode cX4_count 99 = .ok (.getfield 10, 3) := by decide +kernel
theorem dX4_count_102 : decode cX4_count 102 = .ok (.iconst 3, 1) := by decide +kernel
theorem dX4_count_103 : decode cX4_count 103 = .ok (.invokevirtual 114, 3) := by decide +kernel
theorem dX4_count_106 : decode cX4_count 106 = .ok (.ireturn, 1) := by decide +kernel
theorem dX4_count_107 : decode cX4_count 107 = .ok (.aload_n 0, 1) := by decide +kernel
theorem dX4_count_108 : decode cX4_count 108 = .ok (.getfield 10, 3) := by decide +kernel
theorem dX4_count_111 : decode cX4_count 111 = .ok (.iconst 4, 1) := by decide +kernel
theorem dX4_count_112 : decode cX4_count 112 = .ok (.invokevirtual 114, 3) := by decide +kernel
theorem dX4_count_115 : decode cX4_count 115 = .ok (.ireturn, 1) := by decide +kernel
theorem dX4_count_116 : decode cX4_count 116 = .ok (.aload_n 0, 1) := by decide +kernel
theorem dX4_count_117 : decode cX4_count 117 = .ok (.getfield 10, 3) := by decide +kernel
theorem dX4_count_120 : decode cX4_count 120 = .ok (.invokevirtual 163, 3) := by decide +kernel
theorem dX4_count_123 : decode cX4_count 123 = .ok (.ireturn, 1) := by decide +kernel
theorem dX4_count_124 : decode cX4_count 124 = .ok (.aload_n 0, 1) := by decide +kernel
theorem dX4_count_125 : decode cX4_count 125 = .ok (.getfield 10, 3) := by decide +kernel
theorem dX4_count_128 : decode cX4_count 128 = .ok (.getfield 166, 3) := by decide +kernel
theorem dX4_count_131 : decode cX4_count 131 = .ok (.ireturn, 1) := by decide +kernel
theorem dX4_count_132 : decode cX4_count 132 = .ok (.aload_n 0, 1) := by decide +kernel
theorem dX4_count_133 : decode cX4_count 133 = .ok (.getfield 10, 3) := by decide +kernel
theorem dX4_count_136 : decode cX4_count 136 = .ok (.invokevirtual 129, 3) := by decide +kernel
theorem dX4_count_139 : decode cX4_count 139 = .ok (.ireturn, 1) := by decide +kernel
theorem dX4_count_140 : decode cX4_count 140 = .ok (.aload_n 0, 1) := by decide +kernel
theorem dX4_count_141 : decode cX4_count 141 = .ok (.getfield 10, 3) := by decide +kernel
theorem dX4_count_144 : decode cX4_count 144 = .ok (.getfield 169, 3) := by decide +kernel
theorem dX4_count_147 : decode cX4_count 147 = .ok (.ireturn, 1) := by decide +kernel
theorem dX4_count_148 : decode cX4_count 148 = .ok (.aload_n 0, 1) := by decide +kernel
theorem dX4_count_149 : decode cX4_count 149 = .ok (.getfield 10, 3) := by decide +kernel
theorem dX4_count_152 : decode cX4_count 152 = .ok (.getfield 172, 3) := by decide +kernel
theorem dX4_count_155 : decode cX4_count 155 = .ok (.ireturn, 1) := by decide +kernel
theorem dX4_count_156 : decode cX4_count 156 = .ok (.aload_n 0, 1) := by decide +kernel
theorem dX4_count_157 : decode cX4_count 157 = .ok (.getfield 10, 3) := by decide +kernel
theorem dX4_count_160 : decode cX4_count 160 = .ok (.getfield 65, 3) := by decide +kernel
theorem dX4_count_163 : decode cX4_count 163 = .ok (.ireturn, 1) := by decide +kernel
theorem dX4_count_164 : decode cX4_count 164 = .ok (.aload_n 0, 1) := by decide +kernel
theorem dX4_count_165 : decode cX4_count 165 = .ok (.getfield 10, 3) := by decide +kernel
theorem dX4_count_168 : decode cX4_count 168 = .ok (.getfield 68, 3) := by decide +kernel
theorem dX4_count_171 : decode cX4_count 171 = .ok (.ireturn, 1) := by decide +kernel
theorem dX4_count_172 : decode cX4_count 172 = .ok (.aload_n 0, 1) := by decide +kernel
theorem dX4_count_173 : decode cX4_count 173 = .ok (.getfield 22, 3) := by decide +kernel
theorem dX4_count_176 : decode cX4_count 176 = .ok (.getfield 90, 3) := by decide +kernel
theorem dX4_count_179 : decode cX4_count 179 = .ok (.ireturn, 1) := by decide +kernel
theorem dX4_count_180 : decode cX4_count 180 = .ok (.aload_n 0, 1) := by decide +kernel
theorem dX4_count_181 : decode cX4_count 181 = .ok (.getfield 36, 3) := by decide +kernel
theorem dX4_count_184 : decode cX4_count 184 = .ok (.getfield 175, 3) := by decide +kernel
theorem dX4_count_187 : decode cX4_count 187 = .ok (.ireturn, 1) := by decide +kernel
theorem dX4_count_188 : decode cX4_count 188 = .ok (.bipush (-2), 2) := by decide +kernel
theorem dX4_count_190 : decode cX4_count 190 = .ok (.ireturn, 1) := by decide +kernel
theorem dX4_waiting_0 : decode cX4_waiting 0 = .ok (.aload_n 0, 1) := by decide +kernel
theorem dX4_waiting_1 : decode cX4_waiting 1 = .ok (.getfield 10, 3) := by decide +kernel
theorem dX4_waiting_4 : decode cX4_waiting 4 = .ok (.iload_n 1, 1) := by decide +kernel
theorem dX4_waiting_5 : decode cX4_waiting 5 = .ok (.invokevirtual 178, 3) := by decide +kernel
theorem dX4_waiting_8 : decode cX4_waiting 8 = .ok (.ireturn, 1) := by decide +kernel
theorem dX4_ifPassed_0 : decode cX4_ifPassed 0 = .ok (.iload_n 1, 1) := by decide +kernel
theorem dX4_ifPassed_1 : decode cX4_ifPassed 1 = .ok (.iconst 1, 1) := by decide +kernel
theorem dX4_ifPassed_2 : decode cX4_ifPassed 2 = .ok (.sipush 200, 3) := by decide +kernel
theorem dX4_ifPassed_5 : decode cX4_ifPassed 5 = .ok (.invokestatic 57, 3) := by decide +kernel
theorem dX4_ifPassed_8 : decode cX4_ifPassed 8 = .ok (.ifCond .eq 12, 3) := by decide +kernel
theorem dX4_ifPassed_11 : decode cX4_ifPassed 11 = .ok (.iload_n 2, 1) := by decide +kernel
theorem dX4_ifPassed_12 : decode cX4_ifPassed 12 = .ok (.iconst 0, 1) := by decide +kernel
theorem dX4_ifPassed_13 : decode cX4_ifPassed 13 = .ok (.iconst 3, 1) := by decide +kernel
theorem dX4_ifPassed_14 : decode cX4_ifPassed 14 = .ok (.invokestatic 57, 3) := by decide +kernel
theorem dX4_ifPassed_17 : decode cX4_ifPassed 17 = .ok (.ifCond .ne 6, 3) := by decide +kernel
theorem dX4_ifPassed_20 : decode cX4_ifPassed 20 = .ok (.bipush (-2), 2) := by decide +kernel
theorem dX4_ifPassed_22 : decode cX4_ifPassed 22 = .ok (.ireturn, 1) := by decide +kernel
theorem dX4_ifPassed_23 : decode cX4_ifPassed 23 = .ok (.aload_n 0, 1) := by decide +kernel
theorem dX4_ifPassed_24 : decode cX4_ifPassed 24 = .ok (.getfield 16, 3) := by decide +kernel
theorem dX4_ifPassed_27 : decode cX4_ifPassed 27 = .ok (.aload_n 0, 1) := by decide +kernel
theorem dX4_ifPassed_28 : decode cX4_ifPassed 28 = .ok (.getfield 10, 3) := by decide +kernel
theorem dX4_ifPassed_31 : decode cX4_ifPassed 31 = .ok (.invokevirtual 87, 3) := by decide +kernel
theorem dX4_ifPassed_34 : decode cX4_ifPassed 34 = .ok (.aload_n 0, 1) := by decide +kernel
theorem dX4_ifPassed_35 : decode cX4_ifPassed 35 = .ok (.getfield 16, 3) := by decide +kernel
theorem dX4_ifPassed_38 : decode cX4_ifPassed 38 = .ok (.iconst 0, 1) := by decide +kernel
theorem dX4_ifPassed_39 : decode cX4_ifPassed 39 = .ok (.putfield 166, 3) := by decide +kernel
theorem dX4_ifPassed_42 : decode cX4_ifPassed 42 = .ok (.aload_n 0, 1) := by decide +kernel
theorem dX4_ifPassed_43 : decode cX4_ifPassed 43 = .ok (.getfield 16, 3) := by decide +kernel
theorem dX4_ifPassed_46 : decode cX4_ifPassed 46 = .ok (.iload_n 1, 1) := by decide +kernel
theorem dX4_ifPassed_47 : decode cX4_ifPassed 47 = .ok (.invokevirtual 133, 3) := by decide +kernel
theorem dX4_ifPassed_50 : decode cX4_ifPassed 50 = .ok (.iload_n 2, 1) := by decide +kernel
theorem dX4_ifPassed_51 : decode cX4_ifPassed 51 = .ok (.tableswitch 58 0 2 #[25, 41, 50], 25) := by decide +kernel
theorem dX4_ifPassed_76 : decode cX4_ifPassed 76 = .ok (.aload_n 0, 1) := by decide +kernel
theorem dX4_ifPassed_77 : decode cX4_ifPassed 77 = .ok (.getfield 16, 3) := by decide +kernel
theorem dX4_ifPassed_80 : decode cX4_ifPassed 80 = .ok (.invokevirtual 129, 3) := by decide +kernel
theorem dX4_ifPassed_83 : decode cX4_ifPassed 83 = .ok (.aload_n 0, 1) := by decide +kernel
theorem dX4_ifPassed_84 : decode cX4_ifPassed 84 = .ok (.getfield 10, 3) := by decide +kernel
theorem dX4_ifPassed_87 : decode cX4_ifPassed 87 = .ok (.invokevirtual 129, 3) := by decide +kernel
theorem dX4_ifPassed_90 : decode cX4_ifPassed 90 = .ok (.isub, 1) := by decide +kernel
theorem dX4_ifPassed_91 : decode cX4_ifPassed 91 = .ok (.ireturn, 1) := by decide +kernel
theorem dX4_ifPassed_92 : decode cX4_ifPassed 92 = .ok (.aload_n 0, 1) := by decide +kernel
theorem dX4_ifPassed_93 : decode cX4_ifPassed 93 = .ok (.getfield 16, 3) := by decide +kernel
theorem dX4_ifPassed_96 : decode cX4_ifPassed 96 = .ok (.iconst 0, 1) := by decide +kernel
theorem dX4_ifPassed_97 : decode cX4_ifPassed 97 = .ok (.invokevirtual 114, 3) := by decide +kernel
theorem dX4_ifPassed_100 : decode cX4_ifPassed 100 = .ok (.ireturn, 1) := by decide +kernel
theorem dX4_ifPassed_101 : decode cX4_ifPassed 101 = .ok (.aload_n 0, 1) := by decide +kernel
theorem dX4_ifPassed_102 : decode cX4_ifPassed 102 = .ok (.getfield 16, 3) := by decide +kernel
theorem dX4_ifPassed_105 : decode cX4_ifPassed 105 = .ok (.getfield 166, 3) := by decide +kernel
theorem dX4_ifPassed_108 : decode cX4_ifPassed 108 = .ok (.ireturn, 1) := by decide +kernel
theorem dX4_ifPassed_109 : decode cX4_ifPassed 109 = .ok (.aload_n 0, 1) := by decide +kernel
theorem dX4_ifPassed_110 : decode cX4_ifPassed 110 = .ok (.getfield 16, 3) := by decide +kernel
theorem dX4_ifPassed_113 : decode cX4_ifPassed 113 = .ok (.invokevirtual 181, 3) := by decide +kernel
theorem dX4_ifPassed_116 : decode cX4_ifPassed 116 = .ok (.ireturn, 1) := by decide +kernel
theorem dX4_allAwake_0 : decode cX4_allAwake 0 = .ok (.aload_n 0, 1) := by decide +kernel
theorem dX4_allAwake_1 : decode cX4_allAwake 1 = .ok (.aload_n 0, 1) := by decide +kernel
theorem dX4_allAwake_2 : decode cX4_allAwake 2 = .ok (.getfield 10, 3) := by decide +kernel
theorem dX4_allAwake_5 : decode cX4_allAwake 5 = .ok (.getfield 65, 3) := by decide +kernel
theorem dX4_allAwake_8 : decode cX4_allAwake 8 = .ok (.sipush 200, 3) := by decide +kernel
theorem dX4_allAwake_11 : decode cX4_allAwake 11 = .ok (.invokevirtual 184, 3) := by decide +kernel
theorem dX4_allAwake_14 : decode cX4_allAwake 14 = .ok (.ireturn, 1) := by decide +kernel
theorem dX4_leastCurrent_0 : decode cX4_leastCurrent 0 = .ok (.iload_n 1, 1) := by decide +kernel
theorem dX4_leastCurrent_1 : decode cX4_leastCurrent 1 = .ok (.iconst 0, 1) := by decide +kernel
theorem dX4_leastCurrent_2 : decode cX4_leastCurrent 2 = .ok (.sipush 200, 3) := by decide +kernel
theorem dX4_leastCurrent_5 : decode cX4_leastCurrent 5 = .ok (.invokestatic 57, 3) := by decide +kernel
theorem dX4_leastCurrent_8 : decode cX4_leastCurrent 8 = .ok (.ifCond .ne 6, 3) := by decide +kernel
theorem dX4_leastCurrent_11 : decode cX4_leastCurrent 11 = .ok (.bipush (-2), 2) := by decide +kernel
theorem dX4_leastCurrent_13 : decode cX4_leastCurrent 13 = .ok (.ireturn, 1) := by decide +kernel
theorem dX4_leastCurrent_14 : decode cX4_leastCurrent 14 = .ok (.iconst 1, 1) := by decide +kernel
theorem dX4_leastCurrent_15 : decode cX4_leastCurrent 15 = .ok (.istore_n 2, 1) := by decide +kernel
theorem dX4_leastCurrent_16 : decode cX4_leastCurrent 16 = .ok (.iload_n 2, 1) := by decide +kernel
theorem dX4_leastCurrent_17 : decode cX4_leastCurrent 17 = .ok (.bipush 60, 2) := by decide +kernel
theorem dX4_leastCurrent_19 : decode cX4_leastCurrent 19 = .ok (.if_icmp .gt 22, 3) := by decide +kernel
theorem dX4_leastCurrent_22 : decode cX4_leastCurrent 22 = .ok (.aload_n 0, 1) := by decide +kernel
theorem dX4_leastCurrent_23 : decode cX4_leastCurrent 23 = .ok (.iload_n 2, 1) := by decide +kernel
theorem dX4_leastCurrent_24 : decode cX4_leastCurrent 24 = .ok (.iload_n 1, 1) := by decide +kernel
theorem dX4_leastCurrent_25 : decode cX4_leastCurrent 25 = .ok (.invokevirtual 184, 3) := by decide +kernel
theorem dX4_leastCurrent_28 : decode cX4_leastCurrent 28 = .ok (.bipush (-6), 2) := by decide +kernel
theorem dX4_leastCurrent_30 : decode cX4_leastCurrent 30 = .ok (.if_icmp .eq 5, 3) := by decide +kernel
theorem dX4_leastCurrent_33 : decode cX4_leastCurrent 33 = .ok (.iload_n 2, 1) := by decide +kernel
theorem dX4_leastCurrent_34 : decode cX4_leastCurrent 34 = .ok (.ireturn, 1) := by decide +kernel
theorem dX4_leastCurrent_35 : decode cX4_leastCurrent 35 = .ok (.iinc 2 1, 3) := by decide +kernel
theorem dX4_leastCurrent_38 : decode cX4_leastCurrent 38 = .ok (.goto (-22), 3) := by decide +kernel
theorem dX4_leastCurrent_41 : decode cX4_leastCurrent 41 = .ok (.bipush (-6), 2) := by decide +kernel
theorem dX4_leastCurrent_43 : decode cX4_leastCurrent 43 = .ok (.ireturn, 1) := by decide +kernel
theorem dX4_ticksUntilAllAwake_0 : decode cX4_ticksUntilAllAwake 0 = .ok (.aload_n 0, 1) := by decide +kernel
theorem dX4_ticksUntilAllAwake_1 : decode cX4_ticksUntilAllAwake 1 = .ok (.getfield 16, 3) := by decide +kernel
theorem dX4_ticksUntilAllAwake_4 : decode cX4_ticksUntilAllAwake 4 = .ok (.aload_n 0, 1) := by decide +kernel
theorem dX4_ticksUntilAllAwake_5 : decode cX4_ticksUntilAllAwake 5 = .ok (.getfield 10, 3) := by decide +kernel
theorem dX4_ticksUntilAllAwake_8 : decode cX4_ticksUntilAllAwake 8 = .ok (.invokevirtual 87, 3) := by decide +kernel
theorem dX4_ticksUntilAllAwake_11 : decode cX4_ticksUntilAllAwake 11 = .ok (.aload_n 0, 1) := by decide +kernel
theorem dX4_ticksUntilAllAwake_12 : decode cX4_ticksUntilAllAwake 12 = .ok (.getfield 16, 3) := by decide +kernel
theorem dX4_ticksUntilAllAwake_15 : decode cX4_ticksUntilAllAwake 15 = .ok (.iload_n 1, 1) := by decide +kernel
theorem dX4_ticksUntilAllAwake_16 : decode cX4_ticksUntilAllAwake 16 = .ok (.putfield 65, 3) := by decide +kernel
theorem dX4_ticksUntilAllAwake_19 : decode cX4_ticksUntilAllAwake 19 = .ok (.aload_n 0, 1) := by decide +kernel
theorem dX4_ticksUntilAllAwake_20 : decode cX4_ticksUntilAllAwake 20 = .ok (.getfield 16, 3) := by decide +kernel
theorem dX4_ticksUntilAllAwake_23 : decode cX4_ticksUntilAllAwake 23 = .ok (.invokevirtual 188, 3) := by decide +kernel
theorem dX4_ticksUntilAllAwake_26 : decode cX4_ticksUntilAllAwake 26 = .ok (.iconst 0, 1) := by decide +kernel
theorem dX4_ticksUntilAllAwake_27 : decode cX4_ticksUntilAllAwake 27 = .ok (.istore_n 3, 1) := by decide +kernel
theorem dX4_ticksUntilAllAwake_28 : decode cX4_ticksUntilAllAwake 28 = .ok (.iload_n 3, 1) := by decide +kernel
theorem dX4_ticksUntilAllAwake_29 : decode cX4_ticksUntilAllAwake 29 = .ok (.iload_n 2, 1) := by decide +kernel
theorem dX4_ticksUntilAllAwake_30 : decode cX4_ticksUntilAllAwake 30 = .ok (.if_icmp .gt 41, 3) := by decide +kernel
theorem dX4_ticksUntilAllAwake_33 : decode cX4_ticksUntilAllAwake 33 = .ok (.aload_n 0, 1) := by decide +kernel
theorem dX4_ticksUntilAllAwake_34 : decode cX4_ticksUntilAllAwake 34 = .ok (.getfield 16, 3) := by decide +kernel
theorem dX4_ticksUntilAllAwake_37 : decode cX4_ticksUntilAllAwake 37 = .ok (.invokevirtual 191, 3) := by decide +kernel
theorem dX4_ticksUntilAllAwake_40 : decode cX4_ticksUntilAllAwake 40 = .ok (.ifCond .eq 5, 3) := by decide +kernel
theorem dX4_ticksUntilAllAwake_43 : decode cX4_ticksUntilAllAwake 43 = .ok (.iload_n 3, 1) := by decide +kernel
theorem dX4_ticksUntilAllAwake_44 : decode cX4_ticksUntilAllAwake 44 = .ok (.ireturn, 1) := by decide +kernel
theorem dX4_ticksUntilAllAwake_45 : decode cX4_ticksUntilAllAwake 45 = .ok (.aload_n 0, 1) := by decide +kernel
theorem dX4_ticksUntilAllAwake_46 : decode cX4_ticksUntilAllAwake 46 = .ok (.getfield 16, 3) := by decide +kernel
theorem dX4_ticksUntilAllAwake_49 : decode cX4_ticksUntilAllAwake 49 = .ok (.invokevirtual 194, 3) := by decide +kernel
theorem dX4_ticksUntilAllAwake_52 : decode cX4_ticksUntilAllAwake 52 = .ok (.ifCond .eq 6, 3) := by decide +kernel
theorem dX4_ticksUntilAllAwake_55 : decode cX4_ticksUntilAllAwake 55 = .ok (.bipush (-6), 2) := by decide +kernel
theorem dX4_ticksUntilAllAwake_57 : decode cX4_ticksUntilAllAwake 57 = .ok (.ireturn, 1) := by decide +kernel
theorem dX4_ticksUntilAllAwake_58 : decode cX4_ticksUntilAllAwake 58 = .ok (.aload_n 0, 1) := by decide +kernel
theorem dX4_ticksUntilAllAwake_59 : decode cX4_ticksUntilAllAwake 59 = .ok (.getfield 16, 3) := by decide +kernel
theorem dX4_ticksUntilAllAwake_62 : decode cX4_ticksUntilAllAwake 62 = .ok (.invokevirtual 197, 3) := by decide +kernel
theorem dX4_ticksUntilAllAwake_65 : decode cX4_ticksUntilAllAwake 65 = .ok (.iinc 3 1, 3) := by decide +kernel
theorem dX4_ticksUntilAllAwake_68 : decode cX4_ticksUntilAllAwake 68 = .ok (.goto (-40), 3) := by decide +kernel
theorem dX4_ticksUntilAllAwake_71 : decode cX4_ticksUntilAllAwake 71 = .ok (.bipush (-6), 2) := by decide +kernel
theorem dX4_ticksUntilAllAwake_73 : decode cX4_ticksUntilAllAwake 73 = .ok (.ireturn, 1) := by decide +kernel
theorem dX4_quiet_0 : decode cX4_quiet 0 = .ok (.iload_n 1, 1) := by decide +kernel
theorem dX4_quiet_1 : decode cX4_quiet 1 = .ok (.iconst 1, 1) := by decide +kernel
theorem dX4_quiet_2 : decode cX4_quiet 2 = .ok (.bipush 50, 2) := by decide +kernel
theorem dX4_quiet_4 : decode cX4_quiet 4 = .ok (.invokestatic 57, 3) := by decide +kernel
theorem dX4_quiet_7 : decode cX4_quiet 7 = .ok (.ifCond .ne 6, 3) := by decide +kernel
theorem dX4_quiet_10 : decode cX4_quiet 10 = .ok (.bipush (-2), 2) := by decide +kernel
theorem dX4_quiet_12 : decode cX4_quiet 12 = .ok (.ireturn, 1) := by decide +kernel
theorem dX4_quiet_13 : decode cX4_quiet 13 = .ok (.iconst 0, 1) := by decide +kernel
theorem dX4_quiet_14 : decode cX4_quiet 14 = .ok (.istore_n 2, 1) := by decide +kernel
theorem dX4_quiet_15 : decode cX4_quiet 15 = .ok (.iconst 0, 1) := by decide +kernel
theorem dX4_quiet_16 : decode cX4_quiet 16 = .ok (.istore_n 3, 1) := by decide +kernel
theorem dX4_quiet_17 : decode cX4_quiet 17 = .ok (.iload_n 3, 1) := by decide +kernel
theorem dX4_quiet_18 : decode cX4_quiet 18 = .ok (.bipush 8, 2) := by decide +kernel
theorem dX4_quiet_20 : decode cX4_quiet 20 = .ok (.if_icmp .ge 36, 3) := by decide +kernel
theorem dX4_quiet_23 : decode cX4_quiet 23 = .ok (.aload_n 0, 1) := by decide +kernel
theorem dX4_quiet_24 : decode cX4_quiet 24 = .ok (.getfield 10, 3) := by decide +kernel
theorem dX4_quiet_27 : decode cX4_quiet 27 = .ok (.getfield 105, 3) := by decide +kernel
theorem dX4_quiet_30 : decode cX4_quiet 30 = .ok (.iload_n 3, 1) := by decide +kernel
theorem dX4_quiet_31 : decode cX4_quiet 31 = .ok (.iaload, 1) := by decide +kernel
theorem dX4_quiet_32 : decode cX4_quiet 32 = .ok (.ifCond .ne 18, 3) := by decide +kernel
theorem dX4_quiet_35 : decode cX4_quiet 35 = .ok (.aload_n 0, 1) := by decide +kernel
theorem dX4_quiet_36 : decode cX4_quiet 36 = .ok (.iload_n 3, 1) := by decide +kernel
theorem dX4_quiet_37 : decode cX4_quiet 37 = .ok (.iload_n 1, 1) := by decide +kernel
theorem dX4_quiet_38 : decode cX4_quiet 38 = .ok (.invokevirtual 200, 3) := by decide +kernel
theorem dX4_quiet_41 : decode cX4_quiet 41 = .ok (.ifCond .eq 9, 3) := by decide +kernel
theorem dX4_quiet_44 : decode cX4_quiet 44 = .ok (.iload_n 2, 1) := by decide +kernel
theorem dX4_quiet_45 : decode cX4_quiet 45 = .ok (.iconst 1, 1) := by decide +kernel
theorem dX4_quiet_46 : decode cX4_quiet 46 = .ok (.iload_n 3, 1) := by decide +kernel
theorem dX4_quiet_47 : decode cX4_quiet 47 = .ok (.ishl, 1) := by decide +kernel
theorem dX4_quiet_48 : decode cX4_quiet 48 = .ok (.ior, 1) := by decide +kernel
theorem dX4_quiet_49 : decode cX4_quiet 49 = .ok (.istore_n 2, 1) := by decide +kernel
theorem dX4_quiet_50 : decode cX4_quiet 50 = .ok (.iinc 3 1, 3) := by decide +kernel
theorem dX4_quiet_53 : decode cX4_quiet 53 = .ok (.goto (-36), 3) := by decide +kernel
theorem dX4_quiet_56 : decode cX4_quiet 56 = .ok (.iload_n 2, 1) := by decide +kernel
theorem dX4_quiet_57 : decode cX4_quiet 57 = .ok (.ireturn, 1) := by decide +kernel
theorem dX4_sleepsQuietly_0 : decode cX4_sleepsQuietly 0 = .ok (.iload_n 1, 1) := by decide +kernel
theorem dX4_sleepsQuietly_1 : decode cX4_sleepsQuietly 1 = .ok (.iconst 0, 1) := by decide +kernel
theorem dX4_sleepsQuietly_2 : decode cX4_sleepsQuietly 2 = .ok (.bipush 7, 2) := by decide +kernel
theorem dX4_sleepsQuietly_4 : decode cX4_sleepsQuietly 4 = .ok (.invokestatic 57, 3) := by decide +kernel
theorem dX4_sleepsQuietly_7 : decode cX4_sleepsQuietly 7 = .ok (.ifCond .ne 5, 3) := by decide +kernel
theorem dX4_sleepsQuietly_10 : decode cX4_sleepsQuietly 10 = .ok (.iconst 0, 1) := by decide +kernel
theorem dX4_sleepsQuietly_11 : decode cX4_sleepsQuietly 11 = .ok (.ireturn, 1) := by decide +kernel
theorem dX4_sleepsQuietly_12 : decode cX4_sleepsQuietly 12 = .ok (.aload_n 0, 1) := by decide +kernel
theorem dX4_sleepsQuietly_13 : decode cX4_sleepsQuietly 13 = .ok (.getfield 16, 3) := by decide +kernel
theorem dX4_sleepsQuietly_16 : decode cX4_sleepsQuietly 16 = .ok (.aload_n 0, 1) := by decide +kernel
theorem dX4_sleepsQuietly_17 : decode cX4_sleepsQuietly 17 = .ok (.getfield 10, 3) := by decide +kernel
theorem dX4_sleepsQuietly_20 : decode cX4_sleepsQuietly 20 = .ok (.invokevirtual 87, 3) := by decide +kernel
theorem dX4_sleepsQuietly_23 : decode cX4_sleepsQuietly 23 = .ok (.aload_n 0, 1) := by decide +kernel
theorem dX4_sleepsQuietly_24 : decode cX4_sleepsQuietly 24 = .ok (.getfield 16, 3) := by decide +kernel
theorem dX4_sleepsQuietly_27 : decode cX4_sleepsQuietly 27 = .ok (.getfield 105, 3) := by decide +kernel
theorem dX4_sleepsQuietly_30 : decode cX4_sleepsQuietly 30 = .ok (.iload_n 1, 1) := by decide +kernel
theorem dX4_sleepsQuietly_31 : decode cX4_sleepsQuietly 31 = .ok (.iconst 1, 1) := by decide +kernel
theorem dX4_sleepsQuietly_32 : decode cX4_sleepsQuietly 32 = .ok (.iastore, 1) := by decide +kernel
theorem dX4_sleepsQuietly_33 : decode cX4_sleepsQuietly 33 = .ok (.aload_n 0, 1) := by decide +kernel
theorem dX4_sleepsQuietly_34 : decode cX4_sleepsQuietly 34 = .ok (.getfield 16, 3) := by decide +kernel
theorem dX4_sleepsQuietly_37 : decode cX4_sleepsQuietly 37 = .ok (.iload_n 2, 1) := by decide +kernel
theorem dX4_sleepsQuietly_38 : decode cX4_sleepsQuietly 38 = .ok (.invokevirtual 133, 3) := by decide +kernel
theorem dX4_sleepsQuietly_41 : decode cX4_sleepsQuietly 41 = .ok (.aload_n 0, 1) := by decide +kernel
theorem dX4_sleepsQuietly_42 : decode cX4_sleepsQuietly 42 = .ok (.getfield 16, 3) := by decide +kernel
theorem dX4_sleepsQuietly_45 : decode cX4_sleepsQuietly 45 = .ok (.invokevirtual 129, 3) := by decide +kernel
theorem dX4_sleepsQuietly_48 : decode cX4_sleepsQuietly 48 = .ok (.aload_n 0, 1) := by decide +kernel
theorem dX4_sleepsQuietly_49 : decode cX4_sleepsQuietly 49 = .ok (.getfield 10, 3) := by decide +kernel
theorem dX4_sleepsQuietly_52 : decode cX4_sleepsQuietly 52 = .ok (.invokevirtual 129, 3) := by decide +kernel
theorem dX4_sleepsQuietly_55 : decode cX4_sleepsQuietly 55 = .ok (.if_icmp .ne 7, 3) := by decide +kernel
theorem dX4_sleepsQuietly_58 : decode cX4_sleepsQuietly 58 = .ok (.iconst 1, 1) := by decide +kernel
theorem dX4_sleepsQuietly_59 : decode cX4_sleepsQuietly 59 = .ok (.goto 4, 3) := by decide +kernel
theorem dX4_sleepsQuietly_62 : decode cX4_sleepsQuietly 62 = .ok (.iconst 0, 1) := by decide +kernel
theorem dX4_sleepsQuietly_63 : decode cX4_sleepsQuietly 63 = .ok (.ireturn, 1) := by decide +kernel
theorem dX4_put_0 : decode cX4_put 0 = .ok (.lload_n 1, 1) := by decide +kernel
theorem dX4_put_1 : decode cX4_put 1 = .ok (.invokestatic 203, 3) := by decide +kernel
theorem dX4_put_4 : decode cX4_put 4 = .ok (.istore_n 3, 1) := by decide +kernel
theorem dX4_put_5 : decode cX4_put 5 = .ok (.iload_n 3, 1) := by decide +kernel
theorem dX4_put_6 : decode cX4_put 6 = .ok (.ifCond .ne 6, 3) := by decide +kernel
theorem dX4_put_9 : decode cX4_put 9 = .ok (.bipush (-2), 2) := by decide +kernel
theorem dX4_put_11 : decode cX4_put 11 = .ok (.ireturn, 1) := by decide +kernel
theorem dX4_put_12 : decode cX4_put 12 = .ok (.aload_n 0, 1) := by decide +kernel
theorem dX4_put_13 : decode cX4_put 13 = .ok (.getfield 22, 3) := by decide +kernel
theorem dX4_put_16 : decode cX4_put 16 = .ok (.getfield 90, 3) := by decide +kernel
theorem dX4_put_19 : decode cX4_put 19 = .ok (.iload_n 3, 1) := by decide +kernel
theorem dX4_put_20 : decode cX4_put 20 = .ok (.iadd, 1) := by decide +kernel
theorem dX4_put_21 : decode cX4_put 21 = .ok (.bipush 64, 2) := by decide +kernel
theorem dX4_put_23 : decode cX4_put 23 = .ok (.if_icmp .le 6, 3) := by decide +kernel
theorem dX4_put_26 : decode cX4_put 26 = .ok (.bipush (-4), 2) := by decide +kernel
theorem dX4_put_28 : decode cX4_put 28 = .ok (.ireturn, 1) := by decide +kernel
theorem dX4_put_29 : decode cX4_put 29 = .ok (.iload_n 3, 1) := by decide +kernel
theorem dX4_put_30 : decode cX4_put 30 = .ok (.iconst 1, 1) := by decide +kernel
theorem dX4_put_31 : decode cX4_put 31 = .ok (.isub, 1) := by decide +kernel
theorem dX4_put_32 : decode cX4_put 32 = .ok (.istore 4, 2) := by decide +kernel
theorem dX4_put_34 : decode cX4_put 34 = .ok (.iload 4, 2) := by decide +kernel
theorem dX4_put_36 : decode cX4_put 36 = .ok (.ifCond .lt 29, 3) := by decide +kernel
theorem dX4_put_39 : decode cX4_put 39 = .ok (.aload_n 0, 1) := by decide +kernel
theorem dX4_put_40 : decode cX4_put 40 = .ok (.getfield 22, 3) := by decide +kernel
theorem dX4_put_43 : decode cX4_put 43 = .ok (.lload_n 1, 1) := by decide +kernel
theorem dX4_put_44 : decode cX4_put 44 = .ok (.bipush 8, 2) := by decide +kernel
theorem dX4_put_46 : decode cX4_put 46 = .ok (.iload 4, 2) := by decide +kernel
theorem dX4_put_48 : decode cX4_put 48 = .ok (.imul, 1) := by decide +kernel
theorem dX4_put_49 : decode cX4_put 49 = .ok (.lushr, 1) := by decide +kernel
theorem dX4_put_50 : decode cX4_put 50 = .ok (.ldc2_w 207, 3) := by decide +kernel
theorem dX4_put_53 : decode cX4_put 53 = .ok (.land, 1) := by decide +kernel
theorem dX4_put_54 : decode cX4_put 54 = .ok (.l2i, 1) := by decide +kernel
theorem dX4_put_55 : decode cX4_put 55 = .ok (.i2c, 1) := by decide +kernel
theorem dX4_put_56 : decode cX4_put 56 = .ok (.invokevirtual 209, 3) := by decide +kernel
theorem dX4_put_59 : decode cX4_put 59 = .ok (.iinc 4 (-1), 3) := by decide +kernel
theorem dX4_put_62 : decode cX4_put 62 = .ok (.goto (-28), 3) := by decide +kernel
theorem dX4_put_65 : decode cX4_put 65 = .ok (.aload_n 0, 1) := by decide +kernel
theorem dX4_put_66 : decode cX4_put 66 = .ok (.getfield 22, 3) := by decide +kernel
theorem dX4_put_69 : decode cX4_put 69 = .ok (.getfield 90, 3) := by decide +kernel
theorem dX4_put_72 : decode cX4_put 72 = .ok (.ireturn, 1) := by decide +kernel
theorem dX4_signsIn_0 : decode cX4_signsIn 0 = .ok (.lload_n 0, 1) := by decide +kernel
theorem dX4_signsIn_1 : decode cX4_signsIn 1 = .ok (.lstore_n 2, 1) := by decide +kernel
theorem dX4_signsIn_2 : decode cX4_signsIn 2 = .ok (.iconst 0, 1) := by decide +kernel
theorem dX4_signsIn_3 : decode cX4_signsIn 3 = .ok (.istore 4, 2) := by decide +kernel
theorem dX4_signsIn_5 : decode cX4_signsIn 5 = .ok (.iload 4, 2) := by decide +kernel
theorem dX4_signsIn_7 : decode cX4_signsIn 7 = .ok (.bipush 8, 2) := by decide +kernel
theorem dX4_signsIn_9 : decode cX4_signsIn 9 = .ok (.if_icmp .ge 42, 3) := by decide +kernel
theorem dX4_signsIn_12 : decode cX4_signsIn 12 = .ok (.lload_n 2, 1) := by decide +kernel
theorem dX4_signsIn_13 : decode cX4_signsIn 13 = .ok (.ldc2_w 207, 3) := by decide +kernel
theorem dX4_signsIn_16 : decode cX4_signsIn 16 = .ok (.land, 1) := by decide +kernel
theorem dX4_signsIn_17 : decode cX4_signsIn 17 = .ok (.lconst 0, 1) := by decide +kernel
theorem dX4_signsIn_18 : decode cX4_signsIn 18 = .ok (.lcmp, 1) := by decide +kernel
theorem dX4_signsIn_19 : decode cX4_signsIn 19 = .ok (.ifCond .eq 32, 3) := by decide +kernel
theorem dX4_signsIn_22 : decode cX4_signsIn 22 = .ok (.lload_n 2, 1) := by decide +kernel
theorem dX4_signsIn_23 : decode cX4_signsIn 23 = .ok (.ldc2_w 207, 3) := by decide +kernel
theorem dX4_signsIn_26 : decode cX4_signsIn 26 = .ok (.land, 1) := by decide +kernel
theorem dX4_signsIn_27 : decode cX4_signsIn 27 = .ok (.l2i, 1) := by decide +kernel
theorem dX4_signsIn_28 : decode cX4_signsIn 28 = .ok (.bipush 33, 2) := by decide +kernel
theorem dX4_signsIn_30 : decode cX4_signsIn 30 = .ok (.bipush 126, 2) := by decide +kernel
theorem dX4_signsIn_32 : decode cX4_signsIn 32 = .ok (.invokestatic 57, 3) := by decide +kernel
theorem dX4_signsIn_35 : decode cX4_signsIn 35 = .ok (.ifCond .ne 5, 3) := by decide +kernel
theorem dX4_signsIn_38 : decode cX4_signsIn 38 = .ok (.iconst 0, 1) := by decide +kernel
theorem dX4_signsIn_39 : decode cX4_signsIn 39 = .ok (.ireturn, 1) := by decide +kernel
theorem dX4_signsIn_40 : decode cX4_signsIn 40 = .ok (.lload_n 2, 1) := by decide +kernel
theorem dX4_signsIn_41 : decode cX4_signsIn 41 = .ok (.bipush 8, 2) := by decide +kernel
theorem dX4_signsIn_43 : decode cX4_signsIn 43 = .ok (.lushr, 1) := by decide +kernel
theorem dX4_signsIn_44 : decode cX4_signsIn 44 = .ok (.lstore_n 2, 1) := by decide +kernel
theorem dX4_signsIn_45 : decode cX4_signsIn 45 = .ok (.iinc 4 1, 3) := by decide +kernel
theorem dX4_signsIn_48 : decode cX4_signsIn 48 = .ok (.goto (-43), 3) := by decide +kernel
theorem dX4_signsIn_51 : decode cX4_signsIn 51 = .ok (.lload_n 2, 1) := by decide +kernel
theorem dX4_signsIn_52 : decode cX4_signsIn 52 = .ok (.lconst 0, 1) := by decide +kernel
theorem dX4_signsIn_53 : decode cX4_signsIn 53 = .ok (.lcmp, 1) := by decide +kernel
theorem dX4_signsIn_54 : decode cX4_signsIn 54 = .ok (.ifCond .ne 8, 3) := by decide +kernel
theorem dX4_signsIn_57 : decode cX4_signsIn 57 = .ok (.iload 4, 2) := by decide +kernel
theorem dX4_signsIn_59 : decode cX4_signsIn 59 = .ok (.goto 4, 3) := by decide +kernel
theorem dX4_signsIn_62 : decode cX4_signsIn 62 = .ok (.iconst 0, 1) := by decide +kernel
theorem dX4_signsIn_63 : decode cX4_signsIn 63 = .ok (.ireturn, 1) := by decide +kernel
theorem dX4_wipe_0 : decode cX4_wipe 0 = .ok (.aload_n 0, 1) := by decide +kernel
theorem dX4_wipe_1 : decode cX4_wipe 1 = .ok (.getfield 22, 3) := by decide +kernel
theorem dX4_wipe_4 : decode cX4_wipe 4 = .ok (.getfield 90, 3) := by decide +kernel
theorem dX4_wipe_7 : decode cX4_wipe 7 = .ok (.istore_n 1, 1) := by decide +kernel
theorem dX4_wipe_8 : decode cX4_wipe 8 = .ok (.aload_n 0, 1) := by decide +kernel
theorem dX4_wipe_9 : decode cX4_wipe 9 = .ok (.getfield 22, 3) := by decide +kernel
theorem dX4_wipe_12 : decode cX4_wipe 12 = .ok (.iconst 0, 1) := by decide +kernel
theorem dX4_wipe_13 : decode cX4_wipe 13 = .ok (.putfield 90, 3) := by decide +kernel
theorem dX4_wipe_16 : decode cX4_wipe 16 = .ok (.iload_n 1, 1) := by decide +kernel
theorem dX4_wipe_17 : decode cX4_wipe 17 = .ok (.ireturn, 1) := by decide +kernel
theorem dX4_fault_0 : decode cX4_fault 0 = .ok (.aload_n 0, 1) := by decide +kernel
theorem dX4_fault_1 : decode cX4_fault 1 = .ok (.getfield 29, 3) := by decide +kernel
theorem dX4_fault_4 : decode cX4_fault 4 = .ok (.aload_n 0, 1) := by decide +kernel
theorem dX4_fault_5 : decode cX4_fault 5 = .ok (.getfield 22, 3) := by decide +kernel
theorem dX4_fault_8 : decode cX4_fault 8 = .ok (.invokevirtual 78, 3) := by decide +kernel
theorem dX4_fault_11 : decode cX4_fault 11 = .ok (.ireturn, 1) := by decide +kernel
theorem dX4_undo_0 : decode cX4_undo 0 = .ok (.aload_n 0, 1) := by decide +kernel
theorem dX4_undo_1 : decode cX4_undo 1 = .ok (.getfield 36, 3) := by decide +kernel
theorem dX4_undo_4 : decode cX4_undo 4 = .ok (.getfield 175, 3) := by decide +kernel
theorem dX4_undo_7 : decode cX4_undo 7 = .ok (.ifCond .ne 6, 3) := by decide +kernel
theorem dX4_undo_10 : decode cX4_undo 10 = .ok (.bipush (-5), 2) := by decide +kernel
theorem dX4_undo_12 : decode cX4_undo 12 = .ok (.ireturn, 1) := by decide +kernel
theorem dX4_undo_13 : decode cX4_undo 13 = .ok (.aload_n 0, 1) := by decide +kernel
theorem dX4_undo_14 : decode cX4_undo 14 = .ok (.getfield 36, 3) := by decide +kernel
theorem dX4_undo_17 : decode cX4_undo 17 = .ok (.aload_n 0, 1) := by decide +kernel
theorem dX4_undo_18 : decode cX4_undo 18 = .ok (.getfield 10, 3) := by decide +kernel
theorem dX4_undo_21 : decode cX4_undo 21 = .ok (.invokevirtual 213, 3) := by decide +kernel
theorem dX4_undo_24 : decode cX4_undo 24 = .ok (.aload_n 0, 1) := by decide +kernel
theorem dX4_undo_25 : decode cX4_undo 25 = .ok (.getfield 36, 3) := by decide +kernel
theorem dX4_undo_28 : decode cX4_undo 28 = .ok (.getfield 175, 3) := by decide +kernel
theorem dX4_undo_31 : decode cX4_undo 31 = .ok (.ireturn, 1) := by decide +kernel
theorem dX4_save_0 : decode cX4_save 0 = .ok (.iload_n 1, 1) := by decide +kernel
theorem dX4_save_1 : decode cX4_save 1 = .ok (.iconst 0, 1) := by decide +kernel
theorem dX4_save_2 : decode cX4_save 2 = .ok (.iconst 1, 1) := by decide +kernel
theorem dX4_save_3 : decode cX4_save 3 = .ok (.invokestatic 57, 3) := by decide +kernel
theorem dX4_save_6 : decode cX4_save 6 = .ok (.ifCond .ne 6, 3) := by decide +kernel
theorem dX4_save_9 : decode cX4_save 9 = .ok (.bipush (-2), 2) := by decide +kernel
theorem dX4_save_11 : decode cX4_save 11 = .ok (.ireturn, 1) := by decide +kernel
theorem dX4_save_12 : decode cX4_save 12 = .ok (.aload_n 0, 1) := by decide +kernel
theorem dX4_save_13 : decode cX4_save 13 = .ok (.iload_n 1, 1) := by decide +kernel
theorem dX4_save_14 : decode cX4_save 14 = .ok (.invokevirtual 216, 3) := by decide +kernel
theorem dX4_save_17 : decode cX4_save 17 = .ok (.aload_n 0, 1) := by decide +kernel
theorem dX4_save_18 : decode cX4_save 18 = .ok (.getfield 10, 3) := by decide +kernel
theorem dX4_save_21 : decode cX4_save 21 = .ok (.invokevirtual 87, 3) := by decide +kernel
theorem dX4_save_24 : decode cX4_save 24 = .ok (.aload_n 0, 1) := by decide +kernel
theorem dX4_save_25 : decode cX4_save 25 = .ok (.dup, 1) := by decide +kernel
theorem dX4_save_26 : decode cX4_save 26 = .ok (.getfield 46, 3) := by decide +kernel
theorem dX4_save_29 : decode cX4_save 29 = .ok (.iconst 1, 1) := by decide +kernel
theorem dX4_save_30 : decode cX4_save 30 = .ok (.iload_n 1, 1) := by decide +kernel
theorem dX4_save_31 : decode cX4_save 31 = .ok (.ishl, 1) := by decide +kernel
theorem dX4_save_32 : decode cX4_save 32 = .ok (.ior, 1) := by decide +kernel
theorem dX4_save_33 : decode cX4_save 33 = .ok (.putfield 46, 3) := by decide +kernel
theorem dX4_save_36 : decode cX4_save 36 = .ok (.aload_n 0, 1) := by decide +kernel
theorem dX4_save_37 : decode cX4_save 37 = .ok (.getfield 10, 3) := by decide +kernel
theorem dX4_save_40 : decode cX4_save 40 = .ok (.getfield 71, 3) := by decide +kernel
theorem dX4_save_43 : decode cX4_save 43 = .ok (.ireturn, 1) := by decide +kernel
theorem dX4_restore_0 : decode cX4_restore 0 = .ok (.iload_n 1, 1) := by decide +kernel
theorem dX4_restore_1 : decode cX4_restore 1 = .ok (.iconst 0, 1) := by decide +kernel
theorem dX4_restore_2 : decode cX4_restore 2 = .ok (.iconst 1, 1) := by decide +kernel
theorem dX4_restore_3 : decode cX4_restore 3 = .ok (.invokestatic 57, 3) := by decide +kernel
theorem dX4_restore_6 : decode cX4_restore 6 = .ok (.ifCond .ne 6, 3) := by decide +kernel
theorem dX4_restore_9 : decode cX4_restore 9 = .ok (.bipush (-2), 2) := by decide +kernel
theorem dX4_restore_11 : decode cX4_restore 11 = .ok (.ireturn, 1) := by decide +kernel
theorem dX4_restore_12 : decode cX4_restore 12 = .ok (.aload_n 0, 1) := by decide +kernel
theorem dX4_restore_13 : decode cX4_restore 13 = .ok (.getfield 46, 3) := by decide +kernel
theorem dX4_restore_16 : decode cX4_restore 16 = .ok (.iload_n 1, 1) := by decide +kernel
theorem dX4_restore_17 : decode cX4_restore 17 = .ok (.invokestatic 101, 3) := by decide +kernel
theorem dX4_restore_20 : decode cX4_restore 20 = .ok (.ifCond .ne 6, 3) := by decide +kernel
theorem dX4_restore_23 : decode cX4_restore 23 = .ok (.bipush (-5), 2) := by decide +kernel
theorem dX4_restore_25 : decode cX4_restore 25 = .ok (.ireturn, 1) := by decide +kernel
theorem dX4_restore_26 : decode cX4_restore 26 = .ok (.aload_n 0, 1) := by decide +kernel
theorem dX4_restore_27 : decode cX4_restore 27 = .ok (.getfield 36, 3) := by decide +kernel
theorem dX4_restore_30 : decode cX4_restore 30 = .ok (.aload_n 0, 1) := by decide +kernel
theorem dX4_restore_31 : decode cX4_restore 31 = .ok (.getfield 10, 3) := by decide +kernel
theorem dX4_restore_34 : decode cX4_restore 34 = .ok (.invokevirtual 61, 3) := by decide +kernel
theorem dX4_restore_37 : decode cX4_restore 37 = .ok (.aload_n 0, 1) := by decide +kernel
theorem dX4_restore_38 : decode cX4_restore 38 = .ok (.getfield 10, 3) := by decide +kernel
theorem dX4_restore_41 : decode cX4_restore 41 = .ok (.aload_n 0, 1) := by decide +kernel
theorem dX4_restore_42 : decode cX4_restore 42 = .ok (.iload_n 1, 1) := by decide +kernel
theorem dX4_restore_43 : decode cX4_restore 43 = .ok (.invokevirtual 216, 3) := by decide +kernel
theorem dX4_restore_46 : decode cX4_restore 46 = .ok (.invokevirtual 87, 3) := by decide +kernel
theorem dX4_restore_49 : decode cX4_restore 49 = .ok (.aload_n 0, 1) := by decide +kernel
theorem dX4_restore_50 : decode cX4_restore 50 = .ok (.getfield 10, 3) := by decide +kernel
theorem dX4_restore_53 : decode cX4_restore 53 = .ok (.getfield 71, 3) := by decide +kernel
theorem dX4_restore_56 : decode cX4_restore 56 = .ok (.ireturn, 1) := by decide +kernel
theorem dX4_slotOf_0 : decode cX4_slotOf 0 = .ok (.iload_n 1, 1) := by decide +kernel
theorem dX4_slotOf_1 : decode cX4_slotOf 1 = .ok (.ifCond .ne 10, 3) := by decide +kernel
theorem dX4_slotOf_4 : decode cX4_slotOf 4 = .ok (.aload_n 0, 1) := by decide +kernel
theorem dX4_slotOf_5 : decode cX4_slotOf 5 = .ok (.getfield 40, 3) := by decide +kernel
theorem dX4_slotOf_8 : decode cX4_slotOf 8 = .ok (.goto 7, 3) := by decide +kernel
theorem dX4_slotOf_11 : decode cX4_slotOf 11 = .ok (.aload_n 0, 1) := by decide +kernel
theorem dX4_slotOf_12 : decode cX4_slotOf 12 = .ok (.getfield 43, 3) := by decide +kernel
theorem dX4_slotOf_15 : decode cX4_slotOf 15 = .ok (.areturn, 1) := by decide +kernel
theorem dX4_isWithin_0 : decode cX4_isWithin 0 = .ok (.iload_n 0, 1) := by decide +kernel
theorem dX4_isWithin_1 : decode cX4_isWithin 1 = .ok (.iload_n 1, 1) := by decide +kernel
theorem dX4_isWithin_2 : decode cX4_isWithin 2 = .ok (.if_icmp .lt 12, 3) := by decide +kernel
theorem dX4_isWithin_5 : decode cX4_isWithin 5 = .ok (.iload_n 0, 1) := by decide +kernel
theorem dX4_isWithin_6 : decode cX4_isWithin 6 = .ok (.iload_n 2, 1) := by decide +kernel
theorem dX4_isWithin_7 : decode cX4_isWithin 7 = .ok (.if_icmp .gt 7, 3) := by decide +kernel
theorem dX4_isWithin_10 : decode cX4_isWithin 10 = .ok (.iconst 1, 1) := by decide +kernel
theorem dX4_isWithin_11 : decode cX4_isWithin 11 = .ok (.goto 4, 3) := by decide +kernel
theorem dX4_isWithin_14 : decode cX4_isWithin 14 = .ok (.iconst 0, 1) := by decide +kernel
theorem dX4_isWithin_15 : decode cX4_isWithin 15 = .ok (.ireturn, 1) := by decide +kernel
theorem dX4_isIn_0 : decode cX4_isIn 0 = .ok (.iload_n 0, 1) := by decide +kernel
theorem dX4_isIn_1 : decode cX4_isIn 1 = .ok (.iload_n 1, 1) := by decide +kernel
theorem dX4_isIn_2 : decode cX4_isIn 2 = .ok (.ishr, 1) := by decide +kernel
theorem dX4_isIn_3 : decode cX4_isIn 3 = .ok (.iconst 1, 1) := by decide +kernel
theorem dX4_isIn_4 : decode cX4_isIn 4 = .ok (.iand, 1) := by decide +kernel
theorem dX4_isIn_5 : decode cX4_isIn 5 = .ok (.ifCond .eq 7, 3) := by decide +kernel
theorem dX4_isIn_8 : decode cX4_isIn 8 = .ok (.iconst 1, 1) := by decide +kernel
theorem dX4_isIn_9 : decode cX4_isIn 9 = .ok (.goto 4, 3) := by decide +kernel
theorem dX4_isIn_12 : decode cX4_isIn 12 = .ok (.iconst 0, 1) := by decide +kernel
theorem dX4_isIn_13 : decode cX4_isIn 13 = .ok (.ireturn, 1) := by decide +kernel
end
section
theorem dX5_init_0 : decode cX5_init 0 = .ok (.aload_n 0, 1) := by decide +kernel
theorem dX5_init_1 : decode cX5_init 1 = .ok (.invokespecial 1, 3) := by decide +kernel
theorem dX5_init_4 : decode cX5_init 4 = .ok (.aload_n 0, 1) := by decide +kernel
theorem dX5_init_5 : decode cX5_init 5 = .ok (.bipush 96, 2) := by decide +kernel
theorem dX5_init_7 : decode cX5_init 7 = .ok (.newarray .int, 2) := by decide +kernel
theorem dX5_init_9 : decode cX5_init 9 = .ok (.putfield 7, 3) := by decide +kernel
theorem dX5_init_12 : decode cX5_init 12 = .ok (.aload_n 0, 1) := by decide +kernel
theorem dX5_init_13 : decode cX5_init 13 = .ok (.bipush 96, 2) := by decide +kernel
theorem dX5_init_15 : decode cX5_init 15 = .ok (.newarray .int, 2) := by decide +kernel
theorem dX5_init_17 : decode cX5_init 17 = .ok (.putfield 13, 3) := by decide +kernel
theorem dX5_init_20 : decode cX5_init 20 = .ok (.aload_n 0, 1) := by decide +kernel
theorem dX5_init_21 : decode cX5_init 21 = .ok (.sipush 576, 3) := by decide +kernel
theorem dX5_init_24 : decode cX5_init 24 = .ok (.newarray .int, 2) := by decide +kernel
theorem dX5_init_26 : decode cX5_init 26 = .ok (.putfield 16, 3) := by decide +kernel
theorem dX5_init_29 : decode cX5_init 29 = .ok (.aload_n 0, 1) := by decide +kernel
theorem dX5_init_30 : decode cX5_init 30 = .ok (.sipush 192, 3) := by decide +kernel
theorem dX5_init_33 : decode cX5_init 33 = .ok (.newarray .int, 2) := by decide +kernel
theorem dX5_init_35 : decode cX5_init 35 = .ok (.putfield 19, 3) := by decide +kernel
theorem dX5_init_38 : decode cX5_init 38 = .ok (.aload_n 0, 1) := by decide +kernel
theorem dX5_init_39 : decode cX5_init 39 = .ok (.iconst 2, 1) := by decide +kernel
theorem dX5_init_40 : decode cX5_init 40 = .ok (.newarray .int, 2) := by decide +kernel
theorem dX5_init_42 : decode cX5_init 42 = .ok (.putfield 22, 3) := by decide +kernel
theorem dX5_init_45 : decode cX5_init 45 = .ok (.aload_n 0, 1) := by decide +kernel
theorem dX5_init_46 : decode cX5_init 46 = .ok (.bipush 64, 2) := by decide +kernel
theorem dX5_init_48 : decode cX5_init 48 = .ok (.newarray .int, 2) := by decide +kernel
theorem dX5_init_50 : decode cX5_init 50 = .ok (.putfield 25, 3) := by decide +kernel
theorem dX5_init_53 : decode cX5_init 53 = .ok (.aload_n 0, 1) := by decide +kernel
theorem dX5_init_54 : decode cX5_init 54 = .ok (.bipush 8, 2) := by decide +kernel
theorem dX5_init_56 : decode cX5_init 56 = .ok (.newarray .int, 2) := by decide +kernel
theorem dX5_init_58 : decode cX5_init 58 = .ok (.putfield 28, 3) := by decide +kernel
theorem dX5_init_61 : decode cX5_init 61 = .ok (.aload_n 0, 1) := by decide +kernel
theorem dX5_init_62 : decode cX5_init 62 = .ok (.bipush 8, 2) := by decide +kernel
theorem dX5_init_64 : decode cX5_init 64 = .ok (.newarray .int, 2) := by decide +kernel
theorem dX5_init_66 : decode cX5_init 66 = .ok (.putfield 31, 3) := by decide +kernel
theorem dX5_init_69 : decode cX5_init 69 = .ok (.aload_n 0, 1) := by decide +kernel
theorem dX5_init_70 : decode cX5_init 70 = .ok (.getfield 7, 3) := by decide +kernel
theorem dX5_init_73 : decode cX5_init 73 = .ok (.iconst 0, 1) := by decide +kernel
theorem dX5_init_74 : decode cX5_init 74 = .ok (.bipush 20, 2) := by decide +kernel
theorem dX5_init_76 : decode cX5_init 76 = .ok (.iastore, 1) := by decide +kernel
theorem dX5_init_77 : decode cX5_init 77 = .ok (.return_, 1) := by decide +kernel
theorem dX5_moves_0 : decode cX5_moves 0 = .ok (.iconst 0, 1) := by decide +kernel
theorem dX5_moves_1 : decode cX5_moves 1 = .ok (.istore 4, 2) := by decide +kernel
theorem dX5_moves_3 : decode cX5_moves 3 = .ok (.iload 4, 2) := by decide +kernel
theorem dX5_moves_5 : decode cX5_moves 5 = .ok (.bipush 96, 2) := by decide +kernel
theorem dX5_moves_7 : decode cX5_moves 7 = .ok (.if_icmp .ge 21, 3) := by decide +kernel
theorem dX5_moves_10 : decode cX5_moves 10 = .ok (.aload_n 2, 1) := by decide +kernel
theorem dX5_moves_11 : decode cX5_moves 11 = .ok (.iload_n 3, 1) := by decide +kernel
theorem dX5_moves_12 : decode cX5_moves 12 = .ok (.iload 4, 2) := by decide +kernel
theorem dX5_moves_14 : decode cX5_moves 14 = .ok (.iadd, 1) := by decide +kernel
theorem dX5_moves_15 : decode cX5_moves 15 = .ok (.aload_n 0, 1) := by decide +kernel
theorem dX5_moves_16 : decode cX5_moves 16 = .ok (.iload_n 1, 1) := by decide +kernel
theorem dX5_moves_17 : decode cX5_moves 17 = .ok (.iload 4, 2) := by decide +kernel
theorem dX5_moves_19 : decode cX5_moves 19 = .ok (.iadd, 1) := by decide +kernel
theorem dX5_moves_20 : decode cX5_moves 20 = .ok (.iaload, 1) := by decide +kernel
theorem dX5_moves_21 : decode cX5_moves 21 = .ok (.iastore, 1) := by decide +kernel
theorem dX5_moves_22 : decode cX5_moves 22 = .ok (.iinc 4 1, 3) := by decide +kernel
theorem dX5_moves_25 : decode cX5_moves 25 = .ok (.goto (-22), 3) := by decide +kernel
theorem dX5_moves_28 : decode cX5_moves 28 = .ok (.return_, 1) := by decide +kernel
theorem dX5_within_0 : decode cX5_within 0 = .ok (.iload_n 0, 1) := by decide +kernel
theorem dX5_within_1 : decode cX5_within 1 = .ok (.iload_n 1, 1) := by decide +kernel
theorem dX5_within_2 : decode cX5_within 2 = .ok (.if_icmp .lt 12, 3) := by decide +kernel
theorem dX5_within_5 : decode cX5_within 5 = .ok (.iload_n 0, 1) := by decide +kernel
theorem dX5_within_6 : decode cX5_within 6 = .ok (.iload_n 2, 1) := by decide +kernel
theorem dX5_within_7 : decode cX5_within 7 = .ok (.if_icmp .gt 7, 3) := by decide +kernel
theorem dX5_within_10 : decode cX5_within 10 = .ok (.iconst 1, 1) := by decide +kernel
theorem dX5_within_11 : decode cX5_within 11 = .ok (.goto 4, 3) := by decide +kernel
theorem dX5_within_14 : decode cX5_within 14 = .ok (.iconst 0, 1) := by decide +kernel
theorem dX5_within_15 : decode cX5_within 15 = .ok (.ireturn, 1) := by decide +kernel
theorem dX5_record_0 : decode cX5_record 0 = .ok (.aload_n 0, 1) := by decide +kernel
theorem dX5_record_1 : decode cX5_record 1 = .ok (.getfield 34, 3) := by decide +kernel
theorem dX5_record_4 : decode cX5_record 4 = .ok (.bipush 6, 2) := by decide +kernel
theorem dX5_record_6 : decode cX5_record 6 = .ok (.if_icmp .ne 43, 3) := by decide +kernel
theorem dX5_record_9 : decode cX5_record 9 = .ok (.iconst 0, 1) := by decide +kernel
theorem dX5_record_10 : decode cX5_record 10 = .ok (.istore_n 1, 1) := by decide +kernel
theorem dX5_record_11 : decode cX5_record 11 = .ok (.iload_n 1, 1) := by decide +kernel
theorem dX5_record_12 : decode cX5_record 12 = .ok (.sipush 480, 3) := by decide +kernel
theorem dX5_record_15 : decode cX5_record 15 = .ok (.if_icmp .ge 24, 3) := by decide +kernel
theorem dX5_record_18 : decode cX5_record 18 = .ok (.aload_n 0, 1) := by decide +kernel
theorem dX5_record_19 : decode cX5_record 19 = .ok (.getfield 16, 3) := by decide +kernel
theorem dX5_record_22 : decode cX5_record 22 = .ok (.iload_n 1, 1) := by decide +kernel
theorem dX5_record_23 : decode cX5_record 23 = .ok (.aload_n 0, 1) := by decide +kernel
theorem dX5_record_24 : decode cX5_record 24 = .ok (.getfield 16, 3) := by decide +kernel
theorem dX5_record_27 : decode cX5_record 27 = .ok (.iload_n 1, 1) := by decide +kernel
theorem dX5_record_28 : decode cX5_record 28 = .ok (.bipush 96, 2) := by decide +kernel
theorem dX5_record_30 : decode cX5_record 30 = .ok (.iadd, 1) := by decide +kernel
theorem dX5_record_31 : decode cX5_record 31 = .ok (.iaload, 1) := by decide +kernel
theorem dX5_record_32 : decode cX5_record 32 = .ok (.iastore, 1) := by decide +kernel
theorem dX5_record_33 : decode cX5_record 33 = .ok (.iinc 1 1, 3) := by decide +kernel
theorem dX5_record_36 : decode cX5_record 36 = .ok (.goto (-25), 3) := by decide +kernel
theorem dX5_record_39 : decode cX5_record 39 = .ok (.aload_n 0, 1) := by decide +kernel
theorem dX5_record_40 : decode cX5_record 40 = .ok (.dup, 1) := by decide +kernel
theorem dX5_record_41 : decode cX5_record 41 = .ok (.getfield 34, 3) := by decide +kernel
theorem dX5_record_44 : decode cX5_record 44 = .ok (.iconst 1, 1) := by decide +kernel
theorem dX5_record_45 : decode cX5_record 45 = .ok (.isub, 1) := by decide +kernel
theorem dX5_record_46 : decode cX5_record 46 = .ok (.putfield 34, 3) := by decide +kernel
theorem dX5_record_49 : decode cX5_record 49 = .ok (.aload_n 0, 1) := by decide +kernel
theorem dX5_record_50 : decode cX5_record 50 = .ok (.getfield 7, 3) := by decide +kernel
theorem dX5_record_53 : decode cX5_record 53 = .ok (.iconst 0, 1) := by decide +kernel
theorem dX5_record_54 : decode cX5_record 54 = .ok (.aload_n 0, 1) := by decide +kernel
theorem dX5_record_55 : decode cX5_record 55 = .ok (.getfield 16, 3) := by decide +kernel
theorem dX5_record_58 : decode cX5_record 58 = .ok (.aload_n 0, 1) := by decide +kernel
theorem dX5_record_59 : decode cX5_record 59 = .ok (.getfield 34, 3) := by decide +kernel
theorem dX5_record_62 : decode cX5_record 62 = .ok (.bipush 96, 2) := by decide +kernel
theorem dX5_record_64 : decode cX5_record 64 = .ok (.imul, 1) := by decide +kernel
theorem dX5_record_65 : decode cX5_record 65 = .ok (.invokestatic 38, 3) := by decide +kernel
theorem dX5_record_68 : decode cX5_record 68 = .ok (.aload_n 0, 1) := by decide +kernel
theorem dX5_record_69 : decode cX5_record 69 = .ok (.dup, 1) := by decide +kernel
theorem dX5_record_70 : decode cX5_record 70 = .ok (.getfield 34, 3) := by decide +kernel
theorem dX5_record_73 : decode cX5_record 73 = .ok (.iconst 1, 1) := by decide +kernel
theorem dX5_record_74 : decode cX5_record 74 = .ok (.iadd, 1) := by decide +kernel
theorem dX5_record_75 : decode cX5_record 75 = .ok (.putfield 34, 3) := by decide +kernel
theorem dX5_record_78 : decode cX5_record 78 = .ok (.return_, 1) := by decide +kernel
theorem dX5_isIsland_0 : decode cX5_isIsland 0 = .ok (.iload_n 1, 1) := by decide +kernel
theorem dX5_isIsland_1 : decode cX5_isIsland 1 = .ok (.iconst 0, 1) := by decide +kernel
theorem dX5_isIsland_2 : decode cX5_isIsland 2 = .ok (.aload_n 0, 1) := by decide +kernel
theorem dX5_isIsland_3 : decode cX5_isIsland 3 = .ok (.getfield 7, 3) := by decide +kernel
theorem dX5_isIsland_6 : decode cX5_isIsland 6 = .ok (.iconst 2, 1) := by decide +kernel
theorem dX5_isIsland_7 : decode cX5_isIsland 7 = .ok (.iaload, 1) := by decide +kernel
theorem dX5_isIsland_8 : decode cX5_isIsland 8 = .ok (.iconst 1, 1) := by decide +kernel
theorem dX5_isIsland_9 : decode cX5_isIsland 9 = .ok (.isub, 1) := by decide +kernel
theorem dX5_isIsland_10 : decode cX5_isIsland 10 = .ok (.invokestatic 42, 3) := by decide +kernel
theorem dX5_isIsland_13 : decode cX5_isIsland 13 = .ok (.ireturn, 1) := by decide +kernel
theorem dX5_part_0 : decode cX5_part 0 = .ok (.aload_n 0, 1) := by decide +kernel
theorem dX5_part_1 : decode cX5_part 1 = .ok (.getfield 7, 3) := by decide +kernel
theorem dX5_part_4 : decode cX5_part 4 = .ok (.bipush 16, 2) := by decide +kernel
theorem dX5_part_6 : decode cX5_part 6 = .ok (.bipush 10, 2) := by decide +kernel
theorem dX5_part_8 : decode cX5_part 8 = .ok (.iload_n 1, 1) := by decide +kernel
theorem dX5_part_9 : decode cX5_part 9 = .ok (.imul, 1) := by decide +kernel
theorem dX5_part_10 : decode cX5_part 10 = .ok (.iadd, 1) := by decide +kernel
theorem dX5_part_11 : decode cX5_part 11 = .ok (.iload_n 2, 1) := by decide +kernel
theorem dX5_part_12 : decode cX5_part 12 = .ok (.iadd, 1) := by decide +kernel
theorem dX5_part_13 : decode cX5_part 13 = .ok (.iaload, 1) := by decide +kernel
theorem dX5_part_14 : decode cX5_part 14 = .ok (.ireturn, 1) := by decide +kernel
theorem dX5_setPart_0 : decode cX5_setPart 0 = .ok (.aload_n 0, 1) := by decide +kernel
theorem dX5_setPart_1 : decode cX5_setPart 1 = .ok (.getfield 7, 3) := by decide +kernel
theorem dX5_setPart_4 : decode cX5_setPart 4 = .ok (.bipush 16, 2) := by decide +kernel
theorem dX5_setPart_6 : decode cX5_setPart 6 = .ok (.bipush 10, 2) := by decide +kernel
theorem dX5_setPart_8 : decode cX5_setPart 8 = .ok (.iload_n 1, 1) := by decide +kernel
theorem dX5_setPart_9 : decode cX5_setPart 9 = .ok (.imul, 1) := by decide +kernel
theorem dX5_setPart_10 : decode cX5_setPart 10 = .ok (.iadd, 1) := by decide +kernel
theorem dX5_setPart_11 : decode cX5_setPart 11 = .ok (.iload_n 2, 1) := by decide +kernel
theorem dX5_setPart_12 : decode cX5_setPart 12 = .ok (.iadd, 1) := by decide +kernel
theorem dX5_setPart_13 : decode cX5_setPart 13 = .ok (.iload_n 3, 1) := by decide +kernel
theorem dX5_setPart_14 : decode cX5_setPart 14 = .ok (.iastore, 1) := by decide +kernel
theorem dX5_setPart_15 : decode cX5_setPart 15 = .ok (.return_, 1) := by decide +kernel
theorem dX5_is_0 : decode cX5_is 0 = .ok (.aload_n 0, 1) := by decide +kernel
theorem dX5_is_1 : decode cX5_is 1 = .ok (.iload_n 1, 1) := by decide +kernel
theorem dX5_is_2 : decode cX5_is 2 = .ok (.bipush 7, 2) := by decide +kernel
theorem dX5_is_4 : decode cX5_is 4 = .ok (.invokevirtual 46, 3) := by decide +kernel
theorem dX5_is_7 : decode cX5_is 7 = .ok (.iload_n 2, 1) := by decide +kernel
theorem dX5_is_8 : decode cX5_is 8 = .ok (.if_icmp .ne 7, 3) := by decide +kernel
theorem dX5_is_11 : decode cX5_is 11 = .ok (.iconst 1, 1) := by decide +kernel
theorem dX5_is_12 : decode cX5_is 12 = .ok (.goto 4, 3) := by decide +kernel
theorem dX5_is_15 : decode cX5_is 15 = .ok (.iconst 0, 1) := by decide +kernel
theorem dX5_is_16 : decode cX5_is 16 = .ok (.ireturn, 1) := by decide +kernel
theorem dX5_reads_0 : decode cX5_reads 0 = .ok (.aload_n 0, 1) := by decide +kernel
theorem dX5_reads_1 : decode cX5_reads 1 = .ok (.iload_n 1, 1) := by decide +kernel
theorem dX5_reads_2 : decode cX5_reads 2 = .ok (.bipush 6, 2) := by decide +kernel
theorem dX5_reads_4 : decode cX5_reads 4 = .ok (.invokevirtual 46, 3) := by decide +kernel
theorem dX5_reads_7 : decode cX5_reads 7 = .ok (.iload_n 2, 1) := by decide +kernel
theorem dX5_reads_8 : decode cX5_reads 8 = .ok (.ishr, 1) := by decide +kernel
theorem dX5_reads_9 : decode cX5_reads 9 = .ok (.iconst 1, 1) := by decide +kernel
theorem dX5_reads_10 : decode cX5_reads 10 = .ok (.iand, 1) := by decide +kernel
theorem dX5_reads_11 : decode cX5_reads 11 = .ok (.iconst 1, 1) := by decide +kernel
theorem dX5_reads_12 : decode cX5_reads 12 = .ok (.if_icmp .ne 7, 3) := by decide +kernel
theorem dX5_reads_15 : decode cX5_reads 15 = .ok (.iconst 1, 1) := by decide +kernel
theorem dX5_reads_16 : decode cX5_reads 16 = .ok (.goto 4, 3) := by decide +kernel
theorem dX5_reads_19 : decode cX5_reads 19 = .ok (.iconst 0, 1) := by decide +kernel
theorem dX5_reads_20 : decode cX5_reads 20 = .ok (.ireturn, 1) := by decide +kernel
theorem dX5_isSure_0 : decode cX5_isSure 0 = .ok (.aload_n 0, 1) := by decide +kernel
theorem dX5_isSure_1 : decode cX5_isSure 1 = .ok (.iload_n 1, 1) := by decide +kernel
theorem dX5_isSure_2 : decode cX5_isSure 2 = .ok (.iconst 0, 1) := by decide +kernel
theorem dX5_isSure_3 : decode cX5_isSure 3 = .ok (.invokevirtual 50, 3) := by decide +kernel
theorem dX5_isSure_6 : decode cX5_isSure 6 = .ok (.ifCond .ne 12, 3) := by decide +kernel
theorem dX5_isSure_9 : decode cX5_isSure 9 = .ok (.aload_n 0, 1) := by decide +kernel
theorem dX5_isSure_10 : decode cX5_isSure 10 = .ok (.iload_n 1, 1) := by decide +kernel
theorem dX5_isSure_11 : decode cX5_isSure 11 = .ok (.iconst 1, 1) := by decide +kernel
theorem dX5_isSure_12 : decode cX5_isSure 12 = .ok (.invokevirtual 50, 3) := by decide +kernel
theorem dX5_isSure_15 : decode cX5_isSure 15 = .ok (.ifCond .eq 7, 3) := by decide +kernel
theorem dX5_isSure_18 : decode cX5_isSure 18 = .ok (.iconst 1, 1) := by decide +kernel
theorem dX5_isSure_19 : decode cX5_isSure 19 = .ok (.goto 4, 3) := by decide +kernel
theorem dX5_isSure_22 : decode cX5_isSure 22 = .ok (.iconst 0, 1) := by decide +kernel
theorem dX5_isSure_23 : decode cX5_isSure 23 = .ok (.ireturn, 1) := by decide +kernel
theorem dX5_tellsNow_0 : decode cX5_tellsNow 0 = .ok (.aload_n 0, 1) := by decide +kernel
theorem dX5_tellsNow_1 : decode cX5_tellsNow 1 = .ok (.iload_n 1, 1) := by decide +kernel
theorem dX5_tellsNow_2 : decode cX5_tellsNow 2 = .ok (.invokevirtual 54, 3) := by decide +kernel
theorem dX5_tellsNow_5 : decode cX5_tellsNow 5 = .ok (.ifCond .eq 12, 3) := by decide +kernel
theorem dX5_tellsNow_8 : decode cX5_tellsNow 8 = .ok (.aload_n 0, 1) := by decide +kernel
theorem dX5_tellsNow_9 : decode cX5_tellsNow 9 = .ok (.iload_n 1, 1) := by decide +kernel
theorem dX5_tellsNow_10 : decode cX5_tellsNow 10 = .ok (.iconst 4, 1) := by decide +kernel
theorem dX5_tellsNow_11 : decode cX5_tellsNow 11 = .ok (.invokevirtual 46, 3) := by decide +kernel
theorem dX5_tellsNow_14 : decode cX5_tellsNow 14 = .ok (.goto 20, 3) := by decide +kernel
theorem dX5_tellsNow_17 : decode cX5_tellsNow 17 = .ok (.aload_n 0, 1) := by decide +kernel
theorem dX5_tellsNow_18 : decode cX5_tellsNow 18 = .ok (.iload_n 1, 1) := by decide +kernel
theorem dX5_tellsNow_19 : decode cX5_tellsNow 19 = .ok (.iconst 0, 1) := by decide +kernel
theorem dX5_tellsNow_20 : decode cX5_tellsNow 20 = .ok (.invokevirtual 46, 3) := by decide +kernel
theorem dX5_tellsNow_23 : decode cX5_tellsNow 23 = .ok (.iconst 1, 1) := by decide +kernel
theorem dX5_tellsNow_24 : decode cX5_tellsNow 24 = .ok (.if_icmp .ne 7, 3) := by decide +kernel
theorem dX5_tellsNow_27 : decode cX5_tellsNow 27 = .ok (.iconst 0, 1) := by decide +kernel
theorem dX5_tellsNow_28 : decode cX5_tellsNow 28 = .ok (.goto 6, 3) := by decide +kernel
theorem dX5_tellsNow_31 : decode cX5_tellsNow 31 = .ok (.sipush 255, 3) := by decide +kernel
theorem dX5_tellsNow_34 : decode cX5_tellsNow 34 = .ok (.ireturn, 1) := by decide +kernel
theorem dX5_setOf_0 : decode cX5_setOf 0 = .ok (.iconst 0, 1) := by decide +kernel
theorem dX5_setOf_1 : decode cX5_setOf 1 = .ok (.istore_n 2, 1) := by decide +kernel
theorem dX5_setOf_2 : decode cX5_setOf 2 = .ok (.iconst 0, 1) := by decide +kernel
theorem dX5_setOf_3 : decode cX5_setOf 3 = .ok (.istore_n 3, 1) := by decide +kernel
theorem dX5_setOf_4 : decode cX5_setOf 4 = .ok (.iload_n 3, 1) := by decide +kernel
theorem dX5_setOf_5 : decode cX5_setOf 5 = .ok (.aload_n 0, 1) := by decide +kernel
theorem dX5_setOf_6 : decode cX5_setOf 6 = .ok (.getfield 7, 3) := by decide +kernel
theorem dX5_setOf_9 : decode cX5_setOf 9 = .ok (.iconst 2, 1) := by decide +kernel
theorem dX5_setOf_10 : decode cX5_setOf 10 = .ok (.iaload, 1) := by decide +kernel
theorem dX5_setOf_11 : decode cX5_setOf 11 = .ok (.if_icmp .ge 28, 3) := by decide +kernel
theorem dX5_setOf_14 : decode cX5_setOf 14 = .ok (.iload_n 2, 1) := by decide +kernel
theorem dX5_setOf_15 : decode cX5_setOf 15 = .ok (.aload_n 0, 1) := by decide +kernel
theorem dX5_setOf_16 : decode cX5_setOf 16 = .ok (.iload_n 3, 1) := by decide +kernel
theorem dX5_setOf_17 : decode cX5_setOf 17 = .ok (.iload_n 1, 1) := by decide +kernel
theorem dX5_setOf_18 : decode cX5_setOf 18 = .ok (.invokevirtual 50, 3) := by decide +kernel
theorem dX5_setOf_21 : decode cX5_setOf 21 = .ok (.ifCond .eq 9, 3) := by decide +kernel
theorem dX5_setOf_24 : decode cX5_setOf 24 = .ok (.iconst 1, 1) := by decide +kernel
theorem dX5_setOf_25 : decode cX5_setOf 25 = .ok (.iload_n 3, 1) := by decide +kernel
theorem dX5_setOf_26 : decode cX5_setOf 26 = .ok (.ishl, 1) := by decide +kernel
theorem dX5_setOf_27 : decode cX5_setOf 27 = .ok (.goto 4, 3) := by decide +kernel
theorem dX5_setOf_30 : decode cX5_setOf 30 = .ok (.iconst 0, 1) := by decide +kernel
theorem dX5_setOf_31 : decode cX5_setOf 31 = .ok (.ior, 1) := by decide +kernel
theorem dX5_setOf_32 : decode cX5_setOf 32 = .ok (.istore_n 2, 1) := by decide +kernel
theorem dX5_setOf_33 : decode cX5_setOf 33 = .ok (.iinc 3 1, 3) := by decide +kernel
theorem dX5_setOf_36 : decode cX5_setOf 36 = .ok (.goto (-32), 3) := by decide +kernel
theorem dX5_setOf_39 : decode cX5_setOf 39 = .ok (.iload_n 2, 1) := by decide +kernel
theorem dX5_setOf_40 : decode cX5_setOf 40 = .ok (.ireturn, 1) := by decide +kernel
theorem dX5_readersOf_0 : decode cX5_readersOf 0 = .ok (.iconst 0, 1) := by decide +kernel
theorem dX5_readersOf_1 : decode cX5_readersOf 1 = .ok (.istore_n 2, 1) := by decide +kernel
theorem dX5_readersOf_2 : decode cX5_readersOf 2 = .ok (.iconst 0, 1) := by decide +kernel
theorem dX5_readersOf_3 : decode cX5_readersOf 3 = .ok (.istore_n 3, 1) := by decide +kernel
theorem dX5_readersOf_4 : decode cX5_readersOf 4 = .ok (.iload_n 3, 1) := by decide +kernel
theorem dX5_readersOf_5 : decode cX5_readersOf 5 = .ok (.aload_n 0, 1) := by decide +kernel
theorem dX5_readersOf_6 : decode cX5_readersOf 6 = .ok (.getfield 7, 3) := by decide +kernel
theorem dX5_readersOf_9 : decode cX5_readersOf 9 = .ok (.iconst 2, 1) := by decide +kernel
theorem dX5_readersOf_10 : decode cX5_readersOf 10 = .ok (.iaload, 1) := by decide +kernel
theorem dX5_readersOf_11 : decode cX5_readersOf 11 = .ok (.if_icmp .ge 28, 3) := by decide +kernel
theorem dX5_readersOf_14 : decode cX5_readersOf 14 = .ok (.iload_n 2, 1) := by decide +kernel
theorem dX5_readersOf_15 : decode cX5_readersOf 15 = .ok (.aload_n 0, 1) := by decide +kernel
theorem dX5_readersOf_16 : decode cX5_readersOf 16 = .ok (.iload_n 3, 1) := by decide +kernel
theorem dX5_readersOf_17 : decode cX5_readersOf 17 = .ok (.iload_n 1, 1) := by decide +kernel
theorem dX5_readersOf_18 : decode cX5_readersOf 18 = .ok (.invokevirtual 58, 3) := by decide +kernel
theorem dX5_readersOf_21 : decode cX5_readersOf 21 = .ok (.ifCond .eq 9, 3) := by decide +kernel
theorem dX5_readersOf_24 : decode cX5_readersOf 24 = .ok (.iconst 1, 1) := by decide +kernel
theorem dX5_readersOf_25 : decode cX5_readersOf 25 = .ok (.iload_n 3, 1) := by decide +kernel
theorem dX5_readersOf_26 : decode cX5_readersOf 26 = .ok (.ishl, 1) := by decide +kernel
theorem dX5_readersOf_27 : decode cX5_readersOf 27 = .ok (.goto 4, 3) := by decide +kernel
theorem dX5_readersOf_30 : decode cX5_readersOf 30 = .ok (.iconst 0, 1) := by decide +kernel
theorem dX5_readersOf_31 : decode cX5_readersOf 31 = .ok (.ior, 1) := by decide +kernel
theorem dX5_readersOf_32 : decode cX5_readersOf 32 = .ok (.istore_n 2, 1) := by decide +kernel
theorem dX5_readersOf_33 : decode cX5_readersOf 33 = .ok (.iinc 3 1, 3) := by decide +kernel
theorem dX5_readersOf_36 : decode cX5_readersOf 36 = .ok (.goto (-32), 3) := by decide +kernel
theorem dX5_readersOf_39 : decode cX5_readersOf 39 = .ok (.iload_n 2, 1) := by decide +kernel
theorem dX5_readersOf_40 : decode cX5_readersOf 40 = .ok (.ireturn, 1) := by decide +kernel
theorem dX5_awakeReaders_0 : decode cX5_awakeReaders 0 = .ok (.aload_n 0, 1) := by decide +kernel
theorem dX5_awakeReaders_1 : decode cX5_awakeReaders 1 = .ok (.iload_n 1, 1) := by decide +kernel
theorem dX5_awakeReaders_2 : decode cX5_awakeReaders 2 = .ok (.invokevirtual 61, 3) := by decide +kernel
theorem dX5_awakeReaders_5 : decode cX5_awakeReaders 5 = .ok (.aload_n 0, 1) := by decide +kernel
theorem dX5_awakeReaders_6 : decode cX5_awakeReaders 6 = .ok (.iconst 0, 1) := by decide +kernel
theorem dX5_awakeReaders_7 : decode cX5_awakeReaders 7 = .ok (.invokevirtual 65, 3) := by decide +kernel
theorem dX5_awakeReaders_10 : decode cX5_awakeReaders 10 = .ok (.iand, 1) := by decide +kernel
theorem dX5_awakeReaders_11 : decode cX5_awakeReaders 11 = .ok (.ireturn, 1) := by decide +kernel
theorem dX5_bits_0 : decode cX5_bits 0 = .ok (.iconst 0, 1) := by decide +kernel
theorem dX5_bits_1 : decode cX5_bits 1 = .ok (.istore_n 1, 1) := by decide +kernel
theorem dX5_bits_2 : decode cX5_bits 2 = .ok (.iconst 0, 1) := by decide +kernel
theorem dX5_bits_3 : decode cX5_bits 3 = .ok (.istore_n 2, 1) := by decide +kernel
theorem dX5_bits_4 : decode cX5_bits 4 = .ok (.iload_n 2, 1) := by decide +kernel
theorem dX5_bits_5 : decode cX5_bits 5 = .ok (.bipush 8, 2) := by decide +kernel
theorem dX5_bits_7 : decode cX5_bits 7 = .ok (.if_icmp .ge 17, 3) := by decide +kernel
theorem dX5_bits_10 : decode cX5_bits 10 = .ok (.iload_n 1, 1) := by decide +kernel
theorem dX5_bits_11 : decode cX5_bits 11 = .ok (.iload_n 0, 1) := by decide +kernel
theorem dX5_bits_12 : decode cX5_bits 12 = .ok (.iload_n 2, 1) := by decide +kernel
theorem dX5_bits_13 : decode cX5_bits 13 = .ok (.ishr, 1) := by decide +kernel
theorem dX5_bits_14 : decode cX5_bits 14 = .ok (.iconst 1, 1) := by decide +kernel
theorem dX5_bits_15 : decode cX5_bits 15 = .ok (.iand, 1) := by decide +kernel
theorem dX5_bits_16 : decode cX5_bits 16 = .ok (.iadd, 1) := by decide +kernel
theorem dX5_bits_17 : decode cX5_bits 17 = .ok (.istore_n 1, 1) := by decide +kernel
theorem dX5_bits_18 : decode cX5_bits 18 = .ok (.iinc 2 1, 3) := by decide +kernel
theorem dX5_bits_21 : decode cX5_bits 21 = .ok (.goto (-17), 3) := by decide +kernel
theorem dX5_bits_24 : decode cX5_bits 24 = .ok (.iload_n 1, 1) := by decide +kernel
theorem dX5_bits_25 : decode cX5_bits 25 = .ok (.ireturn, 1) := by decide +kernel
theorem dX5_risingLoad_0 : decode cX5_risingLoad 0 = .ok (.iconst 0, 1) := by decide +kernel
theorem dX5_risingLoad_1 : decode cX5_risingLoad 1 = .ok (.istore_n 1, 1) := by decide +kernel
theorem dX5_risingLoad_2 : decode cX5_risingLoad 2 = .ok (.iconst 0, 1) := by decide +kernel
theorem dX5_risingLoad_3 : decode cX5_risingLoad 3 = .ok (.istore_n 2, 1) := by decide +kernel
theorem dX5_risingLoad_4 : decode cX5_risingLoad 4 = .ok (.iload_n 2, 1) := by decide +kernel
theorem dX5_risingLoad_5 : decode cX5_risingLoad 5 = .ok (.aload_n 0, 1) := by decide +kernel
theorem dX5_risingLoad_6 : decode cX5_risingLoad 6 = .ok (.getfield 7, 3) := by decide +kernel
theorem dX5_risingLoad_9 : decode cX5_risingLoad 9 = .ok (.iconst 2, 1) := by decide +kernel
theorem dX5_risingLoad_10 : decode cX5_risingLoad 10 = .ok (.iaload, 1) := by decide +kernel
theorem dX5_risingLoad_11 : decode cX5_risingLoad 11 = .ok (.if_icmp .ge 31, 3) := by decide +kernel
theorem dX5_risingLoad_14 : decode cX5_risingLoad 14 = .ok (.iload_n 1, 1) := by decide +kernel
theorem dX5_risingLoad_15 : decode cX5_risingLoad 15 = .ok (.aload_n 0, 1) := by decide +kernel
theorem dX5_risingLoad_16 : decode cX5_risingLoad 16 = .ok (.iload_n 2, 1) := by decide +kernel
theorem dX5_risingLoad_17 : decode cX5_risingLoad 17 = .ok (.iconst 4, 1) := by decide +kernel
theorem dX5_risingLoad_18 : decode cX5_risingLoad 18 = .ok (.invokevirtual 50, 3) := by decide +kernel
theorem dX5_risingLoad_21 : decode cX5_risingLoad 21 = .ok (.ifCond .eq 12, 3) := by decide +kernel
theorem dX5_risingLoad_24 : decode cX5_risingLoad 24 = .ok (.aload_n 0, 1) := by decide +kernel
theorem dX5_risingLoad_25 : decode cX5_risingLoad 25 = .ok (.iload_n 2, 1) := by decide +kernel
theorem dX5_risingLoad_26 : decode cX5_risingLoad 26 = .ok (.iconst 3, 1) := by decide +kernel
theorem dX5_risingLoad_27 : decode cX5_risingLoad 27 = .ok (.invokevirtual 46, 3) := by decide +kernel
theorem dX5_risingLoad_30 : decode cX5_risingLoad 30 = .ok (.goto 4, 3) := by decide +kernel
theorem dX5_risingLoad_33 : decode cX5_risingLoad 33 = .ok (.iconst 0, 1) := by decide +kernel
theorem dX5_risingLoad_34 : decode cX5_risingLoad 34 = .ok (.iadd, 1) := by decide +kernel
theorem dX5_risingLoad_35 : decode cX5_risingLoad 35 = .ok (.istore_n 1, 1) := by decide +kernel
theorem dX5_risingLoad_36 : decode cX5_risingLoad 36 = .ok (.iinc 2 1, 3) := by decide +kernel
theorem dX5_risingLoad_39 : decode cX5_risingLoad 39 = .ok (.goto (-35), 3) := by decide +kernel
theorem dX5_risingLoad_42 : decode cX5_risingLoad 42 = .ok (.iload_n 1, 1) := by decide +kernel
theorem dX5_risingLoad_43 : decode cX5_risingLoad 43 = .ok (.ireturn, 1) := by decide +kernel
theorem dX5_placeOf_0 : decode cX5_placeOf 0 = .ok (.bipush (-6), 2) := by decide +kernel
theorem dX5_placeOf_2 : decode cX5_placeOf 2 = .ok (.istore_n 2, 1) := by decide +kernel
theorem dX5_placeOf_3 : decode cX5_placeOf 3 = .ok (.iconst 0, 1) := by decide +kernel
theorem dX5_placeOf_4 : decode cX5_placeOf 4 = .ok (.istore_n 3, 1) := by decide +kernel
theorem dX5_placeOf_5 : decode cX5_placeOf 5 = .ok (.iload_n 3, 1) := by decide +kernel
theorem dX5_placeOf_6 : decode cX5_placeOf 6 = .ok (.aload_n 0, 1) := by decide +kernel
theorem dX5_placeOf_7 : decode cX5_placeOf 7 = .ok (.getfield 7, 3) := by decide +kernel
theorem dX5_placeOf_10 : decode cX5_placeOf 10 = .ok (.bipush 7, 2) := by decide +kernel
theorem dX5_placeOf_12 : decode cX5_placeOf 12 = .ok (.iaload, 1) := by decide +kernel
theorem dX5_placeOf_13 : decode cX5_placeOf 13 = .ok (.if_icmp .ge 28, 3) := by decide +kernel
theorem dX5_placeOf_16 : decode cX5_placeOf 16 = .ok (.aload_n 0, 1) := by decide +kernel
theorem dX5_placeOf_17 : decode cX5_placeOf 17 = .ok (.getfield 7, 3) := by decide +kernel
theorem dX5_placeOf_20 : decode cX5_placeOf 20 = .ok (.bipush 8, 2) := by decide +kernel
theorem dX5_placeOf_22 : decode cX5_placeOf 22 = .ok (.iload_n 3, 1) := by decide +kernel
theorem dX5_placeOf_23 : decode cX5_placeOf 23 = .ok (.iadd, 1) := by decide +kernel
theorem dX5_placeOf_24 : decode cX5_placeOf 24 = .ok (.iaload, 1) := by decide +kernel
theorem dX5_placeOf_25 : decode cX5_placeOf 25 = .ok (.iload_n 1, 1) := by decide +kernel
theorem dX5_placeOf_26 : decode cX5_placeOf 26 = .ok (.if_icmp .ne 7, 3) := by decide +kernel
theorem dX5_placeOf_29 : decode cX5_placeOf 29 = .ok (.iload_n 3, 1) := by decide +kernel
theorem dX5_placeOf_30 : decode cX5_placeOf 30 = .ok (.goto 4, 3) := by decide +kernel
theorem dX5_placeOf_33 : decode cX5_placeOf 33 = .ok (.iload_n 2, 1) := by decide +kernel
theorem dX5_placeOf_34 : decode cX5_placeOf 34 = .ok (.istore_n 2, 1) := by decide +kernel
theorem dX5_placeOf_35 : decode cX5_placeOf 35 = .ok (.iinc 3 1, 3) := by decide +kernel
theorem dX5_placeOf_38 : decode cX5_placeOf 38 = .ok (.goto (-33), 3) := by decide +kernel
theorem dX5_placeOf_41 : decode cX5_placeOf 41 = .ok (.iload_n 2, 1) := by decide +kernel
theorem dX5_placeOf_42 : decode cX5_placeOf 42 = .ok (.ireturn, 1) := by decide +kernel
theorem dX5_waitsNow_0 : decode cX5_waitsNow 0 = .ok (.aload_n 0, 1) := by decide +kernel
theorem dX5_waitsNow_1 : decode cX5_waitsNow 1 = .ok (.iload_n 1, 1) := by decide +kernel
theorem dX5_waitsNow_2 : decode cX5_waitsNow 2 = .ok (.bipush 7, 2) := by decide +kernel
theorem dX5_waitsNow_4 : decode cX5_waitsNow 4 = .ok (.iconst 3, 1) := by decide +kernel
theorem dX5_waitsNow_5 : decode cX5_waitsNow 5 = .ok (.invokevirtual 68, 3) := by decide +kernel
theorem dX5_waitsNow_8 : decode cX5_waitsNow 8 = .ok (.aload_n 0, 1) := by decide +kernel
theorem dX5_waitsNow_9 : decode cX5_waitsNow 9 = .ok (.getfield 7, 3) := by decide +kernel
theorem dX5_waitsNow_12 : decode cX5_waitsNow 12 = .ok (.bipush 8, 2) := by decide +kernel
theorem dX5_waitsNow_14 : decode cX5_waitsNow 14 = .ok (.aload_n 0, 1) := by decide +kernel
theorem dX5_waitsNow_15 : decode cX5_waitsNow 15 = .ok (.getfield 7, 3) := by decide +kernel
theorem dX5_waitsNow_18 : decode cX5_waitsNow 18 = .ok (.bipush 7, 2) := by decide +kernel
theorem dX5_waitsNow_20 : decode cX5_waitsNow 20 = .ok (.iaload, 1) := by decide +kernel
theorem dX5_waitsNow_21 : decode cX5_waitsNow 21 = .ok (.iadd, 1) := by decide +kernel
theorem dX5_waitsNow_22 : decode cX5_waitsNow 22 = .ok (.iload_n 1, 1) := by decide +kernel
theorem dX5_waitsNow_23 : decode cX5_waitsNow 23 = .ok (.iastore, 1) := by decide +kernel
theorem dX5_waitsNow_24 : decode cX5_waitsNow 24 = .ok (.aload_n 0, 1) := by decide +kernel
theorem dX5_waitsNow_25 : decode cX5_waitsNow 25 = .ok (.getfield 7, 3) := by decide +kernel
theorem dX5_waitsNow_28 : decode cX5_waitsNow 28 = .ok (.bipush 7, 2) := by decide +kernel
theorem dX5_waitsNow_30 : decode cX5_waitsNow 30 = .ok (.dup2, 1) := by decide +kernel
theorem dX5_waitsNow_31 : decode cX5_waitsNow 31 = .ok (.iaload, 1) := by decide +kernel
theorem dX5_waitsNow_32 : decode cX5_waitsNow 32 = .ok (.iconst 1, 1) := by decide +kernel
theorem dX5_waitsNow_33 : decode cX5_waitsNow 33 = .ok (.iadd, 1) := by decide +kernel
theorem dX5_waitsNow_34 : decode cX5_waitsNow 34 = .ok (.iastore, 1) := by decide +kernel
theorem dX5_waitsNow_35 : decode cX5_waitsNow 35 = .ok (.return_, 1) := by decide +kernel
theorem dX5_newValues_0 : decode cX5_newValues 0 = .ok (.iconst 0, 1) := by decide +kernel
theorem dX5_newValues_1 : decode cX5_newValues 1 = .ok (.istore_n 1, 1) := by decide +kernel
theorem dX5_newValues_2 : decode cX5_newValues 2 = .ok (.iload_n 1, 1) := by decide +kernel
theorem dX5_newValues_3 : decode cX5_newValues 3 = .ok (.aload_n 0, 1) := by decide +kernel
theorem dX5_newValues_4 : decode cX5_newValues 4 = .ok (.getfield 7, 3) := by decide +kernel
theorem dX5_newValues_7 : decode cX5_newValues 7 = .ok (.iconst 2, 1) := by decide +kernel
theorem dX5_newValues_8 : decode cX5_newValues 8 = .ok (.iaload, 1) := by decide +kernel
theorem dX5_newValues_9 : decode cX5_newValues 9 = .ok (.if_icmp .ge 48, 3) := by decide +kernel
theorem dX5_newValues_12 : decode cX5_newValues 12 = .ok (.aload_n 0, 1) := by decide +kernel
theorem dX5_newValues_13 : decode cX5_newValues 13 = .ok (.getfield 28, 3) := by decide +kernel
theorem dX5_newValues_16 : decode cX5_newValues 16 = .ok (.iload_n 1, 1) := by decide +kernel
theorem dX5_newValues_17 : decode cX5_newValues 17 = .ok (.aload_n 0, 1) := by decide +kernel
theorem dX5_newValues_18 : decode cX5_newValues 18 = .ok (.iload_n 1, 1) := by decide +kernel
theorem dX5_newValues_19 : decode cX5_newValues 19 = .ok (.invokevirtual 72, 3) := by decide +kernel
theorem dX5_newValues_22 : decode cX5_newValues 22 = .ok (.iastore, 1) := by decide +kernel
theorem dX5_newValues_23 : decode cX5_newValues 23 = .ok (.aload_n 0, 1) := by decide +kernel
theorem dX5_newValues_24 : decode cX5_newValues 24 = .ok (.getfield 31, 3) := by decide +kernel
theorem dX5_newValues_27 : decode cX5_newValues 27 = .ok (.iload_n 1, 1) := by decide +kernel
theorem dX5_newValues_28 : decode cX5_newValues 28 = .ok (.aload_n 0, 1) := by decide +kernel
theorem dX5_newValues_29 : decode cX5_newValues 29 = .ok (.iload_n 1, 1) := by decide +kernel
theorem dX5_newValues_30 : decode cX5_newValues 30 = .ok (.invokevirtual 54, 3) := by decide +kernel
theorem dX5_newValues_33 : decode cX5_newValues 33 = .ok (.ifCond .ne 16, 3) := by decide +kernel
theorem dX5_newValues_36 : decode cX5_newValues 36 = .ok (.aload_n 0, 1) := by decide +kernel
theorem dX5_newValues_37 : decode cX5_newValues 37 = .ok (.iload_n 1, 1) := by decide +kernel
theorem dX5_newValues_38 : decode cX5_newValues 38 = .ok (.iconst 0, 1) := by decide +kernel
theorem dX5_newValues_39 : decode cX5_newValues 39 = .ok (.invokevirtual 46, 3) := by decide +kernel
theorem dX5_newValues_42 : decode cX5_newValues 42 = .ok (.ifCond .ne 7, 3) := by decide +kernel
theorem dX5_newValues_45 : decode cX5_newValues 45 = .ok (.iconst 1, 1) := by decide +kernel
theorem dX5_newValues_46 : decode cX5_newValues 46 = .ok (.goto 4, 3) := by decide +kernel
theorem dX5_newValues_49 : decode cX5_newValues 49 = .ok (.iconst 0, 1) := by decide +kernel
theorem dX5_newValues_50 : decode cX5_newValues 50 = .ok (.iastore, 1) := by decide +kernel
theorem dX5_newValues_51 : decode cX5_newValues 51 = .ok (.iinc 1 1, 3) := by decide +kernel
theorem dX5_newValues_54 : decode cX5_newValues 54 = .ok (.goto (-52), 3) := by decide +kernel
theorem dX5_newValues_57 : decode cX5_newValues 57 = .ok (.iconst 0, 1) := by decide +kernel
theorem dX5_newValues_58 : decode cX5_newValues 58 = .ok (.istore_n 1, 1) := by decide +kernel
theorem dX5_newValues_59 : decode cX5_newValues 59 = .ok (.iload_n 1, 1) := by decide +kernel
theorem dX5_newValues_60 : decode cX5_newValues 60 = .ok (.aload_n 0, 1) := by decide +kernel
theorem dX5_newValues_61 : decode cX5_newValues 61 = .ok (.getfield 7, 3) := by decide +kernel
theorem dX5_newValues_64 : decode cX5_newValues 64 = .ok (.iconst 2, 1) := by decide +kernel
theorem dX5_newValues_65 : decode cX5_newValues 65 = .ok (.iaload, 1) := by decide +kernel
theorem dX5_newValues_66 : decode cX5_newValues 66 = .ok (.if_icmp .ge 108, 3) := by decide +kernel
theorem dX5_newValues_69 : decode cX5_newValues 69 = .ok (.aload_n 0, 1) := by decide +kernel
theorem dX5_newValues_70 : decode cX5_newValues 70 = .ok (.iload_n 1, 1) := by decide +kernel
theorem dX5_newValues_71 : decode cX5_newValues 71 = .ok (.iconst 4, 1) := by decide +kernel
theorem dX5_newValues_72 : decode cX5_newValues 72 = .ok (.invokevirtual 46, 3) := by decide +kernel
theorem dX5_newValues_75 : decode cX5_newValues 75 = .ok (.istore_n 2, 1) := by decide +kernel
theorem dX5_newValues_76 : decode cX5_newValues 76 = .ok (.iconst 0, 1) := by decide +kernel
theorem dX5_newValues_77 : decode cX5_newValues 77 = .ok (.istore_n 3, 1) := by decide +kernel
theorem dX5_newValues_78 : decode cX5_newValues 78 = .ok (.iload_n 3, 1) := by decide +kernel
theorem dX5_newValues_79 : decode cX5_newValues 79 = .ok (.aload_n 0, 1) := by decide +kernel
theorem dX5_newValues_80 : decode cX5_newValues 80 = .ok (.getfield 7, 3) := by decide +kernel
theorem dX5_newValues_83 : decode cX5_newValues 83 = .ok (.iconst 2, 1) := by decide +kernel
theorem dX5_newValues_84 : decode cX5_newValues 84 = .ok (.iaload, 1) := by decide +kernel
theorem dX5_newValues_85 : decode cX5_newValues 85 = .ok (.if_icmp .ge 72, 3) := by decide +kernel
theorem dX5_newValues_88 : decode cX5_newValues 88 = .ok (.aload_n 0, 1) := by decide +kernel
theorem dX5_newValues_89 : decode cX5_newValues 89 = .ok (.iload_n 1, 1) := by decide +kernel
theorem dX5_newValues_90 : decode cX5_newValues 90 = .ok (.iconst 0, 1) := by decide +kernel
theorem dX5_newValues_91 : decode cX5_newValues 91 = .ok (.invokevirtual 50, 3) := by decide +kernel
theorem dX5_newValues_94 : decode cX5_newValues 94 = .ok (.ifCond .eq 63, 3) := by decide +kernel
theorem dX5_newValues_97 : decode cX5_newValues 97 = .ok (.aload_n 0, 1) := by decide +kernel
theorem dX5_newValues_98 : decode cX5_newValues 98 = .ok (.iload_n 1, 1) := by decide +kernel
theorem dX5_newValues_99 : decode cX5_newValues 99 = .ok (.iload_n 3, 1) := by decide +kernel
theorem dX5_newValues_100 : decode cX5_newValues 100 = .ok (.invokevirtual 58, 3) := by decide +kernel
theorem dX5_newValues_103 : decode cX5_newValues 103 = .ok (.ifCond .eq 48, 3) := by decide +kernel
theorem dX5_newValues_106 : decode cX5_newValues 106 = .ok (.iload_n 2, 1) := by decide +kernel
theorem dX5_newValues_107 : decode cX5_newValues 107 = .ok (.aload_n 0, 1) := by decide +kernel
theorem dX5_newValues_108 : decode cX5_newValues 108 = .ok (.getfield 28, 3) := by decide +kernel
theorem dX5_newValues_111 : decode cX5_newValues 111 = .ok (.iload_n 3, 1) := by decide +kernel
theorem dX5_newValues_112 : decode cX5_newValues 112 = .ok (.iaload, 1) := by decide +kernel
theorem dX5_newValues_113 : decode cX5_newValues 113 = .ok (.iadd, 1) := by decide +kernel
theorem dX5_newValues_114 : decode cX5_newValues 114 = .ok (.istore_n 2, 1) := by decide +kernel
theorem dX5_newValues_115 : decode cX5_newValues 115 = .ok (.aload_n 0, 1) := by decide +kernel
theorem dX5_newValues_116 : decode cX5_newValues 116 = .ok (.getfield 7, 3) := by decide +kernel
theorem dX5_newValues_119 : decode cX5_newValues 119 = .ok (.iconst 4, 1) := by decide +kernel
theorem dX5_newValues_120 : decode cX5_newValues 120 = .ok (.dup2, 1) := by decide +kernel
theorem dX5_newValues_121 : decode cX5_newValues 121 = .ok (.iaload, 1) := by decide +kernel
theorem dX5_newValues_122 : decode cX5_newValues 122 = .ok (.aload_n 0, 1) := by decide +kernel
theorem dX5_newValues_123 : decode cX5_newValues 123 = .ok (.getfield 31, 3) := by decide +kernel
theorem dX5_newValues_126 : decode cX5_newValues 126 = .ok (.iload_n 3, 1) := by decide +kernel
theorem dX5_newValues_127 : decode cX5_newValues 127 = .ok (.iaload, 1) := by decide +kernel
theorem dX5_newValues_128 : decode cX5_newValues 128 = .ok (.iadd, 1) := by decide +kernel
theorem dX5_newValues_129 : decode cX5_newValues 129 = .ok (.iastore, 1) := by decide +kernel
theorem dX5_newValues_130 : decode cX5_newValues 130 = .ok (.aload_n 0, 1) := by decide +kernel
theorem dX5_newValues_131 : decode cX5_newValues 131 = .ok (.iload_n 1, 1) := by decide +kernel
theorem dX5_newValues_132 : decode cX5_newValues 132 = .ok (.bipush 9, 2) := by decide +kernel
theorem dX5_newValues_134 : decode cX5_newValues 134 = .ok (.aload_n 0, 1) := by decide +kernel
theorem dX5_newValues_135 : decode cX5_newValues 135 = .ok (.iload_n 1, 1) := by decide +kernel
theorem dX5_newValues_136 : decode cX5_newValues 136 = .ok (.bipush 9, 2) := by decide +kernel
theorem dX5_newValues_138 : decode cX5_newValues 138 = .ok (.invokevirtual 46, 3) := by decide +kernel
theorem dX5_newValues_141 : decode cX5_newValues 141 = .ok (.aload_n 0, 1) := by decide +kernel
theorem dX5_newValues_142 : decode cX5_newValues 142 = .ok (.getfield 31, 3) := by decide +kernel
theorem dX5_newValues_145 : decode cX5_newValues 145 = .ok (.iload_n 3, 1) := by decide +kernel
theorem dX5_newValues_146 : decode cX5_newValues 146 = .ok (.iaload, 1) := by decide +kernel
theorem dX5_newValues_147 : decode cX5_newValues 147 = .ok (.iadd, 1) := by decide +kernel
theorem dX5_newValues_148 : decode cX5_newValues 148 = .ok (.invokevirtual 68, 3) := by decide +kernel
theorem dX5_newValues_151 : decode cX5_newValues 151 = .ok (.iinc 3 1, 3) := by decide +kernel
theorem dX5_newValues_154 : decode cX5_newValues 154 = .ok (.goto (-76), 3) := by decide +kernel
theorem dX5_newValues_157 : decode cX5_newValues 157 = .ok (.aload_n 0, 1) := by decide +kernel
theorem dX5_newValues_158 : decode cX5_newValues 158 = .ok (.iload_n 1, 1) := by decide +kernel
theorem dX5_newValues_159 : decode cX5_newValues 159 = .ok (.iconst 4, 1) := by decide +kernel
theorem dX5_newValues_160 : decode cX5_newValues 160 = .ok (.iload_n 2, 1) := by decide +kernel
theorem dX5_newValues_161 : decode cX5_newValues 161 = .ok (.sipush 256, 3) := by decide +kernel
theorem dX5_newValues_164 : decode cX5_newValues 164 = .ok (.irem, 1) := by decide +kernel
theorem dX5_newValues_165 : decode cX5_newValues 165 = .ok (.invokevirtual 68, 3) := by decide +kernel
theorem dX5_newValues_168 : decode cX5_newValues 168 = .ok (.iinc 1 1, 3) := by decide +kernel
theorem dX5_newValues_171 : decode cX5_newValues 171 = .ok (.goto (-112), 3) := by decide +kernel
theorem dX5_newValues_174 : decode cX5_newValues 174 = .ok (.return_, 1) := by decide +kernel
theorem dX5_fallAsleep_0 : decode cX5_fallAsleep 0 = .ok (.iconst 0, 1) := by decide +kernel
theorem dX5_fallAsleep_1 : decode cX5_fallAsleep 1 = .ok (.istore_n 1, 1) := by decide +kernel
theorem dX5_fallAsleep_2 : decode cX5_fallAsleep 2 = .ok (.iload_n 1, 1) := by decide +kernel
theorem dX5_fallAsleep_3 : decode cX5_fallAsleep 3 = .ok (.aload_n 0, 1) := by decide +kernel
theorem dX5_fallAsleep_4 : decode cX5_fallAsleep 4 = .ok (.getfield 7, 3) := by decide +kernel
theorem dX5_fallAsleep_7 : decode cX5_fallAsleep 7 = .ok (.iconst 2, 1) := by decide +kernel
theorem dX5_fallAsleep_8 : decode cX5_fallAsleep 8 = .ok (.iaload, 1) := by decide +kernel
theorem dX5_fallAsleep_9 : decode cX5_fallAsleep 9 = .ok (.if_icmp .ge 101, 3) := by decide +kernel
theorem dX5_fallAsleep_12 : decode cX5_fallAsleep 12 = .ok (.aload_n 0, 1) := by decide +kernel
theorem dX5_fallAsleep_13 : decode cX5_fallAsleep 13 = .ok (.iload_n 1, 1) := by decide +kernel
theorem dX5_fallAsleep_14 : decode cX5_fallAsleep 14 = .ok (.iconst 1, 1) := by decide +kernel
theorem dX5_fallAsleep_15 : decode cX5_fallAsleep 15 = .ok (.invokevirtual 50, 3) := by decide +kernel
theorem dX5_fallAsleep_18 : decode cX5_fallAsleep 18 = .ok (.ifCond .eq 86, 3) := by decide +kernel
theorem dX5_fallAsleep_21 : decode cX5_fallAsleep 21 = .ok (.aload_n 0, 1) := by decide +kernel
theorem dX5_fallAsleep_22 : decode cX5_fallAsleep 22 = .ok (.iload_n 1, 1) := by decide +kernel
theorem dX5_fallAsleep_23 : decode cX5_fallAsleep 23 = .ok (.iconst 1, 1) := by decide +kernel
theorem dX5_fallAsleep_24 : decode cX5_fallAsleep 24 = .ok (.invokevirtual 46, 3) := by decide +kernel
theorem dX5_fallAsleep_27 : decode cX5_fallAsleep 27 = .ok (.iconst 1, 1) := by decide +kernel
theorem dX5_fallAsleep_28 : decode cX5_fallAsleep 28 = .ok (.if_icmp .ne 7, 3) := by decide +kernel
theorem dX5_fallAsleep_31 : decode cX5_fallAsleep 31 = .ok (.iconst 1, 1) := by decide +kernel
theorem dX5_fallAsleep_32 : decode cX5_fallAsleep 32 = .ok (.goto 4, 3) := by decide +kernel
theorem dX5_fallAsleep_35 : decode cX5_fallAsleep 35 = .ok (.iconst 0, 1) := by decide +kernel
theorem dX5_fallAsleep_36 : decode cX5_fallAsleep 36 = .ok (.istore_n 2, 1) := by decide +kernel
theorem dX5_fallAsleep_37 : decode cX5_fallAsleep 37 = .ok (.aload_n 0, 1) := by decide +kernel
theorem dX5_fallAsleep_38 : decode cX5_fallAsleep 38 = .ok (.iload_n 1, 1) := by decide +kernel
theorem dX5_fallAsleep_39 : decode cX5_fallAsleep 39 = .ok (.bipush 7, 2) := by decide +kernel
theorem dX5_fallAsleep_41 : decode cX5_fallAsleep 41 = .ok (.iconst 2, 1) := by decide +kernel
theorem dX5_fallAsleep_42 : decode cX5_fallAsleep 42 = .ok (.invokevirtual 68, 3) := by decide +kernel
theorem dX5_fallAsleep_45 : decode cX5_fallAsleep 45 = .ok (.aload_n 0, 1) := by decide +kernel
theorem dX5_fallAsleep_46 : decode cX5_fallAsleep 46 = .ok (.iload_n 1, 1) := by decide +kernel
theorem dX5_fallAsleep_47 : decode cX5_fallAsleep 47 = .ok (.iconst 5, 1) := by decide +kernel
theorem dX5_fallAsleep_48 : decode cX5_fallAsleep 48 = .ok (.iload_n 2, 1) := by decide +kernel
theorem dX5_fallAsleep_49 : decode cX5_fallAsleep 49 = .ok (.ifCond .eq 12, 3) := by decide +kernel
theorem dX5_fallAsleep_52 : decode cX5_fallAsleep 52 = .ok (.aload_n 0, 1) := by decide +kernel
theorem dX5_fallAsleep_53 : decode cX5_fallAsleep 53 = .ok (.iload_n 1, 1) := by decide +kernel
theorem dX5_fallAsleep_54 : decode cX5_fallAsleep 54 = .ok (.iconst 4, 1) := by decide +kernel
theorem dX5_fallAsleep_55 : decode cX5_fallAsleep 55 = .ok (.invokevirtual 46, 3) := by decide +kernel
theorem dX5_fallAsleep_58 : decode cX5_fallAsleep 58 = .ok (.goto 9, 3) := by decide +kernel
theorem dX5_fallAsleep_61 : decode cX5_fallAsleep 61 = .ok (.aload_n 0, 1) := by decide +kernel
theorem dX5_fallAsleep_62 : decode cX5_fallAsleep 62 = .ok (.iload_n 1, 1) := by decide +kernel
theorem dX5_fallAsleep_63 : decode cX5_fallAsleep 63 = .ok (.iconst 5, 1) := by decide +kernel
theorem dX5_fallAsleep_64 : decode cX5_fallAsleep 64 = .ok (.invokevirtual 46, 3) := by decide +kernel
theorem dX5_fallAsleep_67 : decode cX5_fallAsleep 67 = .ok (.invokevirtual 68, 3) := by decide +kernel
theorem dX5_fallAsleep_70 : decode cX5_fallAsleep 70 = .ok (.aload_n 0, 1) := by decide +kernel
theorem dX5_fallAsleep_71 : decode cX5_fallAsleep 71 = .ok (.getfield 7, 3) := by decide +kernel
theorem dX5_fallAsleep_74 : decode cX5_fallAsleep 74 = .ok (.iconst 5, 1) := by decide +kernel
theorem dX5_fallAsleep_75 : decode cX5_fallAsleep 75 = .ok (.dup2, 1) := by decide +kernel
theorem dX5_fallAsleep_76 : decode cX5_fallAsleep 76 = .ok (.iaload, 1) := by decide +kernel
theorem dX5_fallAsleep_77 : decode cX5_fallAsleep 77 = .ok (.iload_n 2, 1) := by decide +kernel
theorem dX5_fallAsleep_78 : decode cX5_fallAsleep 78 = .ok (.ifCond .ne 16, 3) := by decide +kernel
theorem dX5_fallAsleep_81 : decode cX5_fallAsleep 81 = .ok (.aload_n 0, 1) := by decide +kernel
theorem dX5_fallAsleep_82 : decode cX5_fallAsleep 82 = .ok (.iload_n 1, 1) := by decide +kernel
theorem dX5_fallAsleep_83 : decode cX5_fallAsleep 83 = .ok (.iconst 4, 1) := by decide +kernel
theorem dX5_fallAsleep_84 : decode cX5_fallAsleep 84 = .ok (.invokevirtual 46, 3) := by decide +kernel
theorem dX5_fallAsleep_87 : decode cX5_fallAsleep 87 = .ok (.ifCond .le 7, 3) := by decide +kernel
theorem dX5_fallAsleep_90 : decode cX5_fallAsleep 90 = .ok (.iconst 1, 1) := by decide +kernel
theorem dX5_fallAsleep_91 : decode cX5_fallAsleep 91 = .ok (.goto 4, 3) := by decide +kernel
theorem dX5_fallAsleep_94 : decode cX5_fallAsleep 94 = .ok (.iconst 0, 1) := by decide +kernel
theorem dX5_fallAsleep_95 : decode cX5_fallAsleep 95 = .ok (.iadd, 1) := by decide +kernel
theorem dX5_fallAsleep_96 : decode cX5_fallAsleep 96 = .ok (.iastore, 1) := by decide +kernel
theorem dX5_fallAsleep_97 : decode cX5_fallAsleep 97 = .ok (.aload_n 0, 1) := by decide +kernel
theorem dX5_fallAsleep_98 : decode cX5_fallAsleep 98 = .ok (.iload_n 1, 1) := by decide +kernel
theorem dX5_fallAsleep_99 : decode cX5_fallAsleep 99 = .ok (.iconst 4, 1) := by decide +kernel
theorem dX5_fallAsleep_100 : decode cX5_fallAsleep 100 = .ok (.iconst 0, 1) := by decide +kernel
theorem dX5_fallAsleep_101 : decode cX5_fallAsleep 101 = .ok (.invokevirtual 68, 3) := by decide +kernel
theorem dX5_fallAsleep_104 : decode cX5_fallAsleep 104 = .ok (.iinc 1 1, 3) := by decide +kernel
theorem dX5_fallAsleep_107 : decode cX5_fallAsleep 107 = .ok (.goto (-105), 3) := by decide +kernel
theorem dX5_fallAsleep_110 : decode cX5_fallAsleep 110 = .ok (.return_, 1) := by decide +kernel
theorem dX5_riseOn_0 : decode cX5_riseOn 0 = .ok (.iconst 0, 1) := by decide +kernel
theorem dX5_riseOn_1 : decode cX5_riseOn 1 = .ok (.istore_n 1, 1) := by decide +kernel
theorem dX5_riseOn_2 : decode cX5_riseOn 2 = .ok (.iload_n 1, 1) := by decide +kernel
theorem dX5_riseOn_3 : decode cX5_riseOn 3 = .ok (.aload_n 0, 1) := by decide +kernel
theorem dX5_riseOn_4 : decode cX5_riseOn 4 = .ok (.getfield 7, 3) := by decide +kernel
theorem dX5_riseOn_7 : decode cX5_riseOn 7 = .ok (.iconst 2, 1) := by decide +kernel
theorem dX5_riseOn_8 : decode cX5_riseOn 8 = .ok (.iaload, 1) := by decide +kernel
theorem dX5_riseOn_9 : decode cX5_riseOn 9 = .ok (.if_icmp .ge 83, 3) := by decide +kernel
theorem dX5_riseOn_12 : decode cX5_riseOn 12 = .ok (.aload_n 0, 1) := by decide +kernel
theorem dX5_riseOn_13 : decode cX5_riseOn 13 = .ok (.iload_n 1, 1) := by decide +kernel
theorem dX5_riseOn_14 : decode cX5_riseOn 14 = .ok (.iconst 4, 1) := by decide +kernel
theorem dX5_riseOn_15 : decode cX5_riseOn 15 = .ok (.invokevirtual 50, 3) := by decide +kernel
theorem dX5_riseOn_18 : decode cX5_riseOn 18 = .ok (.ifCond .eq 68, 3) := by decide +kernel
theorem dX5_riseOn_21 : decode cX5_riseOn 21 = .ok (.aload_n 0, 1) := by decide +kernel
theorem dX5_riseOn_22 : decode cX5_riseOn 22 = .ok (.iload_n 1, 1) := by decide +kernel
theorem dX5_riseOn_23 : decode cX5_riseOn 23 = .ok (.bipush 8, 2) := by decide +kernel
theorem dX5_riseOn_25 : decode cX5_riseOn 25 = .ok (.aload_n 0, 1) := by decide +kernel
theorem dX5_riseOn_26 : decode cX5_riseOn 26 = .ok (.iload_n 1, 1) := by decide +kernel
theorem dX5_riseOn_27 : decode cX5_riseOn 27 = .ok (.bipush 8, 2) := by decide +kernel
theorem dX5_riseOn_29 : decode cX5_riseOn 29 = .ok (.invokevirtual 46, 3) := by decide +kernel
theorem dX5_riseOn_32 : decode cX5_riseOn 32 = .ok (.iconst 1, 1) := by decide +kernel
theorem dX5_riseOn_33 : decode cX5_riseOn 33 = .ok (.isub, 1) := by decide +kernel
theorem dX5_riseOn_34 : decode cX5_riseOn 34 = .ok (.invokevirtual 68, 3) := by decide +kernel
theorem dX5_riseOn_37 : decode cX5_riseOn 37 = .ok (.aload_n 0, 1) := by decide +kernel
theorem dX5_riseOn_38 : decode cX5_riseOn 38 = .ok (.iload_n 1, 1) := by decide +kernel
theorem dX5_riseOn_39 : decode cX5_riseOn 39 = .ok (.bipush 8, 2) := by decide +kernel
theorem dX5_riseOn_41 : decode cX5_riseOn 41 = .ok (.invokevirtual 46, 3) := by decide +kernel
theorem dX5_riseOn_44 : decode cX5_riseOn 44 = .ok (.ifCond .ne 42, 3) := by decide +kernel
theorem dX5_riseOn_47 : decode cX5_riseOn 47 = .ok (.aload_n 0, 1) := by decide +kernel
theorem dX5_riseOn_48 : decode cX5_riseOn 48 = .ok (.iload_n 1, 1) := by decide +kernel
theorem dX5_riseOn_49 : decode cX5_riseOn 49 = .ok (.bipush 7, 2) := by decide +kernel
theorem dX5_riseOn_51 : decode cX5_riseOn 51 = .ok (.iconst 0, 1) := by decide +kernel
theorem dX5_riseOn_52 : decode cX5_riseOn 52 = .ok (.invokevirtual 68, 3) := by decide +kernel
theorem dX5_riseOn_55 : decode cX5_riseOn 55 = .ok (.aload_n 0, 1) := by decide +kernel
theorem dX5_riseOn_56 : decode cX5_riseOn 56 = .ok (.iload_n 1, 1) := by decide +kernel
theorem dX5_riseOn_57 : decode cX5_riseOn 57 = .ok (.iconst 4, 1) := by decide +kernel
theorem dX5_riseOn_58 : decode cX5_riseOn 58 = .ok (.aload_n 0, 1) := by decide +kernel
theorem dX5_riseOn_59 : decode cX5_riseOn 59 = .ok (.iload_n 1, 1) := by decide +kernel
theorem dX5_riseOn_60 : decode cX5_riseOn 60 = .ok (.iconst 1, 1) := by decide +kernel
theorem dX5_riseOn_61 : decode cX5_riseOn 61 = .ok (.invokevirtual 46, 3) := by decide +kernel
theorem dX5_riseOn_64 : decode cX5_riseOn 64 = .ok (.iconst 1, 1) := by decide +kernel
theorem dX5_riseOn_65 : decode cX5_riseOn 65 = .ok (.if_icmp .ne 12, 3) := by decide +kernel
theorem dX5_riseOn_68 : decode cX5_riseOn 68 = .ok (.aload_n 0, 1) := by decide +kernel
theorem dX5_riseOn_69 : decode cX5_riseOn 69 = .ok (.iload_n 1, 1) := by decide +kernel
theorem dX5_riseOn_70 : decode cX5_riseOn 70 = .ok (.iconst 5, 1) := by decide +kernel
theorem dX5_riseOn_71 : decode cX5_riseOn 71 = .ok (.invokevirtual 46, 3) := by decide +kernel
theorem dX5_riseOn_74 : decode cX5_riseOn 74 = .ok (.goto 9, 3) := by decide +kernel
theorem dX5_riseOn_77 : decode cX5_riseOn 77 = .ok (.aload_n 0, 1) := by decide +kernel
theorem dX5_riseOn_78 : decode cX5_riseOn 78 = .ok (.iload_n 1, 1) := by decide +kernel
theorem dX5_riseOn_79 : decode cX5_riseOn 79 = .ok (.iconst 4, 1) := by decide +kernel
theorem dX5_riseOn_80 : decode cX5_riseOn 80 = .ok (.invokevirtual 46, 3) := by decide +kernel
theorem dX5_riseOn_83 : decode cX5_riseOn 83 = .ok (.invokevirtual 68, 3) := by decide +kernel
theorem dX5_riseOn_86 : decode cX5_riseOn 86 = .ok (.iinc 1 1, 3) := by decide +kernel
theorem dX5_riseOn_89 : decode cX5_riseOn 89 = .ok (.goto (-87), 3) := by decide +kernel
theorem dX5_riseOn_92 : decode cX5_riseOn 92 = .ok (.return_, 1) := by decide +kernel
theorem dX5_ask_0 : decode cX5_ask 0 = .ok (.iconst 0, 1) := by decide +kernel
theorem dX5_ask_1 : decode cX5_ask 1 = .ok (.istore_n 1, 1) := by decide +kernel
theorem dX5_ask_2 : decode cX5_ask 2 = .ok (.iload_n 1, 1) := by decide +kernel
theorem dX5_ask_3 : decode cX5_ask 3 = .ok (.aload_n 0, 1) := by decide +kernel
theorem dX5_ask_4 : decode cX5_ask 4 = .ok (.getfield 7, 3) := by decide +kernel
theorem dX5_ask_7 : decode cX5_ask 7 = .ok (.iconst 2, 1) := by decide +kernel
theorem dX5_ask_8 : decode cX5_ask 8 = .ok (.iaload, 1) := by decide +kernel
theorem dX5_ask_9 : decode cX5_ask 9 = .ok (.if_icmp .ge 41, 3) := by decide +kernel
theorem dX5_ask_12 : decode cX5_ask 12 = .ok (.aload_n 0, 1) := by decide +kernel
theorem dX5_ask_13 : decode cX5_ask 13 = .ok (.getfield 7, 3) := by decide +kernel
theorem dX5_ask_16 : decode cX5_ask 16 = .ok (.iconst 1, 1) := by decide +kernel
theorem dX5_ask_17 : decode cX5_ask 17 = .ok (.iaload, 1) := by decide +kernel
theorem dX5_ask_18 : decode cX5_ask 18 = .ok (.iconst 1, 1) := by decide +kernel
theorem dX5_ask_19 : decode cX5_ask 19 = .ok (.if_icmp .ne 31, 3) := by decide +kernel
theorem dX5_ask_22 : decode cX5_ask 22 = .ok (.aload_n 0, 1) := by decide +kernel
theorem dX5_ask_23 : decode cX5_ask 23 = .ok (.iload_n 1, 1) := by decide +kernel
theorem dX5_ask_24 : decode cX5_ask 24 = .ok (.iconst 2, 1) := by decide +kernel
theorem dX5_ask_25 : decode cX5_ask 25 = .ok (.invokevirtual 50, 3) := by decide +kernel
theorem dX5_ask_28 : decode cX5_ask 28 = .ok (.ifCond .eq 16, 3) := by decide +kernel
theorem dX5_ask_31 : decode cX5_ask 31 = .ok (.aload_n 0, 1) := by decide +kernel
theorem dX5_ask_32 : decode cX5_ask 32 = .ok (.iload_n 1, 1) := by decide +kernel
theorem dX5_ask_33 : decode cX5_ask 33 = .ok (.invokevirtual 75, 3) := by decide +kernel
theorem dX5_ask_36 : decode cX5_ask 36 = .ok (.ifCond .eq 8, 3) := by decide +kernel
theorem dX5_ask_39 : decode cX5_ask 39 = .ok (.aload_n 0, 1) := by decide +kernel
theorem dX5_ask_40 : decode cX5_ask 40 = .ok (.iload_n 1, 1) := by decide +kernel
theorem dX5_ask_41 : decode cX5_ask 41 = .ok (.invokevirtual 78, 3) := by decide +kernel
theorem dX5_ask_44 : decode cX5_ask 44 = .ok (.iinc 1 1, 3) := by decide +kernel
theorem dX5_ask_47 : decode cX5_ask 47 = .ok (.goto (-45), 3) := by decide +kernel
theorem dX5_ask_50 : decode cX5_ask 50 = .ok (.return_, 1) := by decide +kernel
theorem dX5_letRise_0 : decode cX5_letRise 0 = .ok (.iconst 0, 1) := by decide +kernel
theorem dX5_letRise_1 : decode cX5_letRise 1 = .ok (.istore_n 1, 1) := by decide +kernel
theorem dX5_letRise_2 : decode cX5_letRise 2 = .ok (.iconst 0, 1) := by decide +kernel
theorem dX5_letRise_3 : decode cX5_letRise 3 = .ok (.istore_n 2, 1) := by decide +kernel
theorem dX5_letRise_4 : decode cX5_letRise 4 = .ok (.iload_n 2, 1) := by decide +kernel
theorem dX5_letRise_5 : decode cX5_letRise 5 = .ok (.aload_n 0, 1) := by decide +kernel
theorem dX5_letRise_6 : decode cX5_letRise 6 = .ok (.getfield 7, 3) := by decide +kernel
theorem dX5_letRise_9 : decode cX5_letRise 9 = .ok (.bipush 7, 2) := by decide +kernel
theorem dX5_letRise_11 : decode cX5_letRise 11 = .ok (.iaload, 1) := by decide +kernel
theorem dX5_letRise_12 : decode cX5_letRise 12 = .ok (.if_icmp .ge 85, 3) := by decide +kernel
theorem dX5_letRise_15 : decode cX5_letRise 15 = .ok (.aload_n 0, 1) := by decide +kernel
theorem dX5_letRise_16 : decode cX5_letRise 16 = .ok (.getfield 7, 3) := by decide +kernel
theorem dX5_letRise_19 : decode cX5_letRise 19 = .ok (.bipush 8, 2) := by decide +kernel
theorem dX5_letRise_21 : decode cX5_letRise 21 = .ok (.iload_n 2, 1) := by decide +kernel
theorem dX5_letRise_22 : decode cX5_letRise 22 = .ok (.iadd, 1) := by decide +kernel
theorem dX5_letRise_23 : decode cX5_letRise 23 = .ok (.iaload, 1) := by decide +kernel
theorem dX5_letRise_24 : decode cX5_letRise 24 = .ok (.istore_n 3, 1) := by decide +kernel
theorem dX5_letRise_25 : decode cX5_letRise 25 = .ok (.aload_n 0, 1) := by decide +kernel
theorem dX5_letRise_26 : decode cX5_letRise 26 = .ok (.invokevirtual 82, 3) := by decide +kernel
theorem dX5_letRise_29 : decode cX5_letRise 29 = .ok (.istore 4, 2) := by decide +kernel
theorem dX5_letRise_31 : decode cX5_letRise 31 = .ok (.iload 4, 2) := by decide +kernel
theorem dX5_letRise_33 : decode cX5_letRise 33 = .ok (.ifCond .eq 21, 3) := by decide +kernel
theorem dX5_letRise_36 : decode cX5_letRise 36 = .ok (.iload 4, 2) := by decide +kernel
theorem dX5_letRise_38 : decode cX5_letRise 38 = .ok (.aload_n 0, 1) := by decide +kernel
theorem dX5_letRise_39 : decode cX5_letRise 39 = .ok (.iload_n 3, 1) := by decide +kernel
theorem dX5_letRise_40 : decode cX5_letRise 40 = .ok (.iconst 3, 1) := by decide +kernel
theorem dX5_letRise_41 : decode cX5_letRise 41 = .ok (.invokevirtual 46, 3) := by decide +kernel
theorem dX5_letRise_44 : decode cX5_letRise 44 = .ok (.iadd, 1) := by decide +kernel
theorem dX5_letRise_45 : decode cX5_letRise 45 = .ok (.aload_n 0, 1) := by decide +kernel
theorem dX5_letRise_46 : decode cX5_letRise 46 = .ok (.getfield 7, 3) := by decide +kernel
theorem dX5_letRise_49 : decode cX5_letRise 49 = .ok (.iconst 0, 1) := by decide +kernel
theorem dX5_letRise_50 : decode cX5_letRise 50 = .ok (.iaload, 1) := by decide +kernel
theorem dX5_letRise_51 : decode cX5_letRise 51 = .ok (.if_icmp .gt 27, 3) := by decide +kernel
theorem dX5_letRise_54 : decode cX5_letRise 54 = .ok (.aload_n 0, 1) := by decide +kernel
theorem dX5_letRise_55 : decode cX5_letRise 55 = .ok (.iload_n 3, 1) := by decide +kernel
theorem dX5_letRise_56 : decode cX5_letRise 56 = .ok (.bipush 7, 2) := by decide +kernel
theorem dX5_letRise_58 : decode cX5_letRise 58 = .ok (.iconst 4, 1) := by decide +kernel
theorem dX5_letRise_59 : decode cX5_letRise 59 = .ok (.invokevirtual 68, 3) := by decide +kernel
theorem dX5_letRise_62 : decode cX5_letRise 62 = .ok (.aload_n 0, 1) := by decide +kernel
theorem dX5_letRise_63 : decode cX5_letRise 63 = .ok (.iload_n 3, 1) := by decide +kernel
theorem dX5_letRise_64 : decode cX5_letRise 64 = .ok (.bipush 8, 2) := by decide +kernel
theorem dX5_letRise_66 : decode cX5_letRise 66 = .ok (.aload_n 0, 1) := by decide +kernel
theorem dX5_letRise_67 : decode cX5_letRise 67 = .ok (.iload_n 3, 1) := by decide +kernel
theorem dX5_letRise_68 : decode cX5_letRise 68 = .ok (.iconst 2, 1) := by decide +kernel
theorem dX5_letRise_69 : decode cX5_letRise 69 = .ok (.invokevirtual 46, 3) := by decide +kernel
theorem dX5_letRise_72 : decode cX5_letRise 72 = .ok (.invokevirtual 68, 3) := by decide +kernel
theorem dX5_letRise_75 : decode cX5_letRise 75 = .ok (.goto 16, 3) := by decide +kernel
theorem dX5_letRise_78 : decode cX5_letRise 78 = .ok (.aload_n 0, 1) := by decide +kernel
theorem dX5_letRise_79 : decode cX5_letRise 79 = .ok (.getfield 7, 3) := by decide +kernel
theorem dX5_letRise_82 : decode cX5_letRise 82 = .ok (.bipush 8, 2) := by decide +kernel
theorem dX5_letRise_84 : decode cX5_letRise 84 = .ok (.iload_n 1, 1) := by decide +kernel
theorem dX5_letRise_85 : decode cX5_letRise 85 = .ok (.iadd, 1) := by decide +kernel
theorem dX5_letRise_86 : decode cX5_letRise 86 = .ok (.iload_n 3, 1) := by decide +kernel
theorem dX5_letRise_87 : decode cX5_letRise 87 = .ok (.iastore, 1) := by decide +kernel
theorem dX5_letRise_88 : decode cX5_letRise 88 = .ok (.iinc 1 1, 3) := by decide +kernel
theorem dX5_letRise_91 : decode cX5_letRise 91 = .ok (.iinc 2 1, 3) := by decide +kernel
theorem dX5_letRise_94 : decode cX5_letRise 94 = .ok (.goto (-90), 3) := by decide +kernel
theorem dX5_letRise_97 : decode cX5_letRise 97 = .ok (.aload_n 0, 1) := by decide +kernel
theorem dX5_letRise_98 : decode cX5_letRise 98 = .ok (.getfield 7, 3) := by decide +kernel
theorem dX5_letRise_101 : decode cX5_letRise 101 = .ok (.bipush 7, 2) := by decide +kernel
theorem dX5_letRise_103 : decode cX5_letRise 103 = .ok (.iload_n 1, 1) := by decide +kernel
theorem dX5_letRise_104 : decode cX5_letRise 104 = .ok (.iastore, 1) := by decide +kernel
theorem dX5_letRise_105 : decode cX5_letRise 105 = .ok (.return_, 1) := by decide +kernel
theorem dX5_tick_0 : decode cX5_tick 0 = .ok (.aload_n 0, 1) := by decide +kernel
theorem dX5_tick_1 : decode cX5_tick 1 = .ok (.invokevirtual 86, 3) := by decide +kernel
theorem dX5_tick_4 : decode cX5_tick 4 = .ok (.aload_n 0, 1) := by decide +kernel
theorem dX5_tick_5 : decode cX5_tick 5 = .ok (.invokevirtual 89, 3) := by decide +kernel
theorem dX5_tick_8 : decode cX5_tick 8 = .ok (.aload_n 0, 1) := by decide +kernel
theorem dX5_tick_9 : decode cX5_tick 9 = .ok (.invokevirtual 92, 3) := by decide +kernel
theorem dX5_tick_12 : decode cX5_tick 12 = .ok (.aload_n 0, 1) := by decide +kernel
theorem dX5_tick_13 : decode cX5_tick 13 = .ok (.invokevirtual 95, 3) := by decide +kernel
theorem dX5_tick_16 : decode cX5_tick 16 = .ok (.aload_n 0, 1) := by decide +kernel
theorem dX5_tick_17 : decode cX5_tick 17 = .ok (.invokevirtual 98, 3) := by decide +kernel
theorem dX5_tick_20 : decode cX5_tick 20 = .ok (.aload_n 0, 1) := by decide +kernel
theorem dX5_tick_21 : decode cX5_tick 21 = .ok (.getfield 7, 3) := by decide +kernel
theorem dX5_tick_24 : decode cX5_tick 24 = .ok (.iconst 3, 1) := by decide +kernel
theorem dX5_tick_25 : decode cX5_tick 25 = .ok (.dup2, 1) := by decide +kernel
theorem dX5_tick_26 : decode cX5_tick 26 = .ok (.iaload, 1) := by decide +kernel
theorem dX5_tick_27 : decode cX5_tick 27 = .ok (.iconst 1, 1) := by decide +kernel
theorem dX5_tick_28 : decode cX5_tick 28 = .ok (.iadd, 1) := by decide +kernel
theorem dX5_tick_29 : decode cX5_tick 29 = .ok (.iastore, 1) := by decide +kernel
theorem dX5_tick_30 : decode cX5_tick 30 = .ok (.aload_n 0, 1) := by decide +kernel
theorem dX5_tick_31 : decode cX5_tick 31 = .ok (.getfield 7, 3) := by decide +kernel
theorem dX5_tick_34 : decode cX5_tick 34 = .ok (.bipush 6, 2) := by decide +kernel
theorem dX5_tick_36 : decode cX5_tick 36 = .ok (.aload_n 0, 1) := by decide +kernel
theorem dX5_tick_37 : decode cX5_tick 37 = .ok (.invokevirtual 82, 3) := by decide +kernel
theorem dX5_tick_40 : decode cX5_tick 40 = .ok (.aload_n 0, 1) := by decide +kernel
theorem dX5_tick_41 : decode cX5_tick 41 = .ok (.getfield 7, 3) := by decide +kernel
theorem dX5_tick_44 : decode cX5_tick 44 = .ok (.bipush 6, 2) := by decide +kernel
theorem dX5_tick_46 : decode cX5_tick 46 = .ok (.iaload, 1) := by decide +kernel
theorem dX5_tick_47 : decode cX5_tick 47 = .ok (.if_icmp .le 10, 3) := by decide +kernel
theorem dX5_tick_50 : decode cX5_tick 50 = .ok (.aload_n 0, 1) := by decide +kernel
theorem dX5_tick_51 : decode cX5_tick 51 = .ok (.invokevirtual 82, 3) := by decide +kernel
theorem dX5_tick_54 : decode cX5_tick 54 = .ok (.goto 10, 3) := by decide +kernel
theorem dX5_tick_57 : decode cX5_tick 57 = .ok (.aload_n 0, 1) := by decide +kernel
theorem dX5_tick_58 : decode cX5_tick 58 = .ok (.getfield 7, 3) := by decide +kernel
theorem dX5_tick_61 : decode cX5_tick 61 = .ok (.bipush 6, 2) := by decide +kernel
theorem dX5_tick_63 : decode cX5_tick 63 = .ok (.iaload, 1) := by decide +kernel
theorem dX5_tick_64 : decode cX5_tick 64 = .ok (.iastore, 1) := by decide +kernel
theorem dX5_tick_65 : decode cX5_tick 65 = .ok (.return_, 1) := by decide +kernel
theorem dX5_passes_0 : decode cX5_passes 0 = .ok (.aload_n 0, 1) := by decide +kernel
theorem dX5_passes_1 : decode cX5_passes 1 = .ok (.getfield 7, 3) := by decide +kernel
theorem dX5_passes_4 : decode cX5_passes 4 = .ok (.iconst 4, 1) := by decide +kernel
theorem dX5_passes_5 : decode cX5_passes 5 = .ok (.iaload, 1) := by decide +kernel
theorem dX5_passes_6 : decode cX5_passes 6 = .ok (.istore_n 2, 1) := by decide +kernel
theorem dX5_passes_7 : decode cX5_passes 7 = .ok (.iconst 0, 1) := by decide +kernel
theorem dX5_passes_8 : decode cX5_passes 8 = .ok (.istore_n 3, 1) := by decide +kernel
theorem dX5_passes_9 : decode cX5_passes 9 = .ok (.iload_n 3, 1) := by decide +kernel
theorem dX5_passes_10 : decode cX5_passes 10 = .ok (.iload_n 1, 1) := by decide +kernel
theorem dX5_passes_11 : decode cX5_passes 11 = .ok (.if_icmp .ge 13, 3) := by decide +kernel
theorem dX5_passes_14 : decode cX5_passes 14 = .ok (.aload_n 0, 1) := by decide +kernel
theorem dX5_passes_15 : decode cX5_passes 15 = .ok (.invokevirtual 101, 3) := by decide +kernel
theorem dX5_passes_18 : decode cX5_passes 18 = .ok (.iinc 3 1, 3) := by decide +kernel
theorem dX5_passes_21 : decode cX5_passes 21 = .ok (.goto (-12), 3) := by decide +kernel
theorem dX5_passes_24 : decode cX5_passes 24 = .ok (.aload_n 0, 1) := by decide +kernel
theorem dX5_passes_25 : decode cX5_passes 25 = .ok (.getfield 7, 3) := by decide +kernel
theorem dX5_passes_28 : decode cX5_passes 28 = .ok (.iconst 4, 1) := by decide +kernel
theorem dX5_passes_29 : decode cX5_passes 29 = .ok (.iaload, 1) := by decide +kernel
theorem dX5_passes_30 : decode cX5_passes 30 = .ok (.iload_n 2, 1) := by decide +kernel
theorem dX5_passes_31 : decode cX5_passes 31 = .ok (.isub, 1) := by decide +kernel
theorem dX5_passes_32 : decode cX5_passes 32 = .ok (.ireturn, 1) := by decide +kernel
theorem dX5_isValue_0 : decode cX5_isValue 0 = .ok (.iload_n 0, 1) := by decide +kernel
theorem dX5_isValue_1 : decode cX5_isValue 1 = .ok (.ifCond .ne 13, 3) := by decide +kernel
theorem dX5_isValue_4 : decode cX5_isValue 4 = .ok (.iload_n 1, 1) := by decide +kernel
theorem dX5_isValue_5 : decode cX5_isValue 5 = .ok (.iconst 1, 1) := by decide +kernel
theorem dX5_isValue_6 : decode cX5_isValue 6 = .ok (.bipush 60, 2) := by decide +kernel
theorem dX5_isValue_8 : decode cX5_isValue 8 = .ok (.invokestatic 42, 3) := by decide +kernel
theorem dX5_isValue_11 : decode cX5_isValue 11 = .ok (.goto 22, 3) := by decide +kernel
theorem dX5_isValue_14 : decode cX5_isValue 14 = .ok (.iload_n 0, 1) := by decide +kernel
theorem dX5_isValue_15 : decode cX5_isValue 15 = .ok (.iconst 1, 1) := by decide +kernel
theorem dX5_isValue_16 : decode cX5_isValue 16 = .ok (.if_icmp .ne 16, 3) := by decide +kernel
theorem dX5_isValue_19 : decode cX5_isValue 19 = .ok (.iload_n 1, 1) := by decide +kernel
theorem dX5_isValue_20 : decode cX5_isValue 20 = .ok (.iconst 0, 1) := by decide +kernel
theorem dX5_isValue_21 : decode cX5_isValue 21 = .ok (.iconst 1, 1) := by decide +kernel
theorem dX5_isValue_22 : decode cX5_isValue 22 = .ok (.invokestatic 42, 3) := by decide +kernel
theorem dX5_isValue_25 : decode cX5_isValue 25 = .ok (.ifCond .eq 7, 3) := by decide +kernel
theorem dX5_isValue_28 : decode cX5_isValue 28 = .ok (.iconst 1, 1) := by decide +kernel
theorem dX5_isValue_29 : decode cX5_isValue 29 = .ok (.goto 4, 3) := by decide +kernel
theorem dX5_isValue_32 : decode cX5_isValue 32 = .ok (.iconst 0, 1) := by decide +kernel
theorem dX5_isValue_33 : decode cX5_isValue 33 = .ok (.ireturn, 1) := by decide +kernel
theorem dX5_set_0 : decode cX5_set 0 = .ok (.iload_n 1, 1) := by decide +kernel
theorem dX5_set_1 : decode cX5_set 1 = .ok (.iload_n 2, 1) := by decide +kernel
theorem dX5_set_2 : decode cX5_set 2 = .ok (.invokestatic 104, 3) := by decide +kernel
theorem dX5_set_5 : decode cX5_set 5 = .ok (.ifCond .ne 6, 3) := by decide +kernel
theorem dX5_set_8 : decode cX5_set 8 = .ok (.bipush (-2), 2) := by decide +kernel
theorem dX5_set_10 : decode cX5_set 10 = .ok (.ireturn, 1) := by decide +kernel
theorem dX5_set_11 : decode cX5_set 11 = .ok (.aload_n 0, 1) := by decide +kernel
theorem dX5_set_12 : decode cX5_set 12 = .ok (.invokevirtual 107, 3) := by decide +kernel
theorem dX5_set_15 : decode cX5_set 15 = .ok (.aload_n 0, 1) := by decide +kernel
theorem dX5_set_16 : decode cX5_set 16 = .ok (.getfield 7, 3) := by decide +kernel
theorem dX5_set_19 : decode cX5_set 19 = .ok (.iload_n 1, 1) := by decide +kernel
theorem dX5_set_20 : decode cX5_set 20 = .ok (.iaload, 1) := by decide +kernel
theorem dX5_set_21 : decode cX5_set 21 = .ok (.istore_n 3, 1) := by decide +kernel
theorem dX5_set_22 : decode cX5_set 22 = .ok (.aload_n 0, 1) := by decide +kernel
theorem dX5_set_23 : decode cX5_set 23 = .ok (.getfield 7, 3) := by decide +kernel
theorem dX5_set_26 : decode cX5_set 26 = .ok (.iload_n 1, 1) := by decide +kernel
theorem dX5_set_27 : decode cX5_set 27 = .ok (.iload_n 2, 1) := by decide +kernel
theorem dX5_set_28 : decode cX5_set 28 = .ok (.iastore, 1) := by decide +kernel
theorem dX5_set_29 : decode cX5_set 29 = .ok (.iload_n 3, 1) := by decide +kernel
theorem dX5_set_30 : decode cX5_set 30 = .ok (.ireturn, 1) := by decide +kernel
theorem dX5_comes_0 : decode cX5_comes 0 = .ok (.aload_n 0, 1) := by decide +kernel
theorem dX5_comes_1 : decode cX5_comes 1 = .ok (.getfield 7, 3) := by decide +kernel
theorem dX5_comes_4 : decode cX5_comes 4 = .ok (.iconst 2, 1) := by decide +kernel
theorem dX5_comes_5 : decode cX5_comes 5 = .ok (.iaload, 1) := by decide +kernel
theorem dX5_comes_6 : decode cX5_comes 6 = .ok (.istore 6, 2) := by decide +kernel
theorem dX5_comes_8 : decode cX5_comes 8 = .ok (.iconst 0, 1) := by decide +kernel
theorem dX5_comes_9 : decode cX5_comes 9 = .ok (.istore 7, 2) := by decide +kernel
theorem dX5_comes_11 : decode cX5_comes 11 = .ok (.iload 7, 2) := by decide +kernel
theorem dX5_comes_13 : decode cX5_comes 13 = .ok (.bipush 10, 2) := by decide +kernel
theorem dX5_comes_15 : decode cX5_comes 15 = .ok (.if_icmp .ge 18, 3) := by decide +kernel
theorem dX5_comes_18 : decode cX5_comes 18 = .ok (.aload_n 0, 1) := by decide +kernel
theorem dX5_comes_19 : decode cX5_comes 19 = .ok (.iload 6, 2) := by decide +kernel
theorem dX5_comes_21 : decode cX5_comes 21 = .ok (.iload 7, 2) := by decide +kernel
theorem dX5_comes_23 : decode cX5_comes 23 = .ok (.iconst 0, 1) := by decide +kernel
theorem dX5_comes_24 : decode cX5_comes 24 = .ok (.invokevirtual 68, 3) := by decide +kernel
theorem dX5_comes_27 : decode cX5_comes 27 = .ok (.iinc 7 1, 3) := by decide +kernel
theorem dX5_comes_30 : decode cX5_comes 30 = .ok (.goto (-19), 3) := by decide +kernel
theorem dX5_comes_33 : decode cX5_comes 33 = .ok (.aload_n 0, 1) := by decide +kernel
theorem dX5_comes_34 : decode cX5_comes 34 = .ok (.iload 6, 2) := by decide +kernel
theorem dX5_comes_36 : decode cX5_comes 36 = .ok (.iconst 0, 1) := by decide +kernel
theorem dX5_comes_37 : decode cX5_comes 37 = .ok (.iload_n 1, 1) := by decide +kernel
theorem dX5_comes_38 : decode cX5_comes 38 = .ok (.invokevirtual 68, 3) := by decide +kernel
theorem dX5_comes_41 : decode cX5_comes 41 = .ok (.aload_n 0, 1) := by decide +kernel
theorem dX5_comes_42 : decode cX5_comes 42 = .ok (.iload 6, 2) := by decide +kernel
theorem dX5_comes_44 : decode cX5_comes 44 = .ok (.iconst 1, 1) := by decide +kernel
theorem dX5_comes_45 : decode cX5_comes 45 = .ok (.iload_n 2, 1) := by decide +kernel
theorem dX5_comes_46 : decode cX5_comes 46 = .ok (.invokevirtual 68, 3) := by decide +kernel
theorem dX5_comes_49 : decode cX5_comes 49 = .ok (.aload_n 0, 1) := by decide +kernel
theorem dX5_comes_50 : decode cX5_comes 50 = .ok (.iload 6, 2) := by decide +kernel
theorem dX5_comes_52 : decode cX5_comes 52 = .ok (.iconst 2, 1) := by decide +kernel
theorem dX5_comes_53 : decode cX5_comes 53 = .ok (.iload_n 3, 1) := by decide +kernel
theorem dX5_comes_54 : decode cX5_comes 54 = .ok (.invokevirtual 68, 3) := by decide +kernel
theorem dX5_comes_57 : decode cX5_comes 57 = .ok (.aload_n 0, 1) := by decide +kernel
theorem dX5_comes_58 : decode cX5_comes 58 = .ok (.iload 6, 2) := by decide +kernel
theorem dX5_comes_60 : decode cX5_comes 60 = .ok (.iconst 3, 1) := by decide +kernel
theorem dX5_comes_61 : decode cX5_comes 61 = .ok (.iload 4, 2) := by decide +kernel
theorem dX5_comes_63 : decode cX5_comes 63 = .ok (.invokevirtual 68, 3) := by decide +kernel
theorem dX5_comes_66 : decode cX5_comes 66 = .ok (.aload_n 0, 1) := by decide +kernel
theorem dX5_comes_67 : decode cX5_comes 67 = .ok (.iload 6, 2) := by decide +kernel
theorem dX5_comes_69 : decode cX5_comes 69 = .ok (.bipush 6, 2) := by decide +kernel
theorem dX5_comes_71 : decode cX5_comes 71 = .ok (.iload 5, 2) := by decide +kernel
theorem dX5_comes_73 : decode cX5_comes 73 = .ok (.invokevirtual 68, 3) := by decide +kernel
theorem dX5_comes_76 : decode cX5_comes 76 = .ok (.aload_n 0, 1) := by decide +kernel
theorem dX5_comes_77 : decode cX5_comes 77 = .ok (.getfield 7, 3) := by decide +kernel
theorem dX5_comes_80 : decode cX5_comes 80 = .ok (.iconst 2, 1) := by decide +kernel
theorem dX5_comes_81 : decode cX5_comes 81 = .ok (.dup2, 1) := by decide +kernel
theorem dX5_comes_82 : decode cX5_comes 82 = .ok (.iaload, 1) := by decide +kernel
theorem dX5_comes_83 : decode cX5_comes 83 = .ok (.iconst 1, 1) := by decide +kernel
theorem dX5_comes_84 : decode cX5_comes 84 = .ok (.iadd, 1) := by decide +kernel
theorem dX5_comes_85 : decode cX5_comes 85 = .ok (.iastore, 1) := by decide +kernel
theorem dX5_comes_86 : decode cX5_comes 86 = .ok (.return_, 1) := by decide +kernel
theorem dX5_build_0 : decode cX5_build 0 = .ok (.iload_n 3, 1) := by decide +kernel
theorem dX5_build_1 : decode cX5_build 1 = .ok (.iconst 1, 1) := by decide +kernel
theorem dX5_build_2 : decode cX5_build 2 = .ok (.bipush 9, 2) := by decide +kernel
theorem dX5_build_4 : decode cX5_build 4 = .ok (.invokestatic 42, 3) := by decide +kernel
theorem dX5_build_7 : decode cX5_build 7 = .ok (.ifCond .eq 14, 3) := by decide +kernel
theorem dX5_build_10 : decode cX5_build 10 = .ok (.iload 4, 2) := by decide +kernel
theorem dX5_build_12 : decode cX5_build 12 = .ok (.iconst 1, 1) := by decide +kernel
theorem dX5_build_13 : decode cX5_build 13 = .ok (.bipush 20, 2) := by decide +kernel
theorem dX5_build_15 : decode cX5_build 15 = .ok (.invokestatic 42, 3) := by decide +kernel
theorem dX5_build_18 : decode cX5_build 18 = .ok (.ifCond .ne 6, 3) := by decide +kernel
theorem dX5_build_21 : decode cX5_build 21 = .ok (.bipush (-2), 2) := by decide +kernel
theorem dX5_build_23 : decode cX5_build 23 = .ok (.ireturn, 1) := by decide +kernel
theorem dX5_build_24 : decode cX5_build 24 = .ok (.aload_n 0, 1) := by decide +kernel
theorem dX5_build_25 : decode cX5_build 25 = .ok (.getfield 7, 3) := by decide +kernel
theorem dX5_build_28 : decode cX5_build 28 = .ok (.iconst 2, 1) := by decide +kernel
theorem dX5_build_29 : decode cX5_build 29 = .ok (.iaload, 1) := by decide +kernel
theorem dX5_build_30 : decode cX5_build 30 = .ok (.bipush 8, 2) := by decide +kernel
theorem dX5_build_32 : decode cX5_build 32 = .ok (.if_icmp .ne 6, 3) := by decide +kernel
theorem dX5_build_35 : decode cX5_build 35 = .ok (.bipush (-4), 2) := by decide +kernel
theorem dX5_build_37 : decode cX5_build 37 = .ok (.ireturn, 1) := by decide +kernel
theorem dX5_build_38 : decode cX5_build 38 = .ok (.aload_n 0, 1) := by decide +kernel
theorem dX5_build_39 : decode cX5_build 39 = .ok (.invokevirtual 107, 3) := by decide +kernel
theorem dX5_build_42 : decode cX5_build 42 = .ok (.aload_n 0, 1) := by decide +kernel
theorem dX5_build_43 : decode cX5_build 43 = .ok (.iload_n 1, 1) := by decide +kernel
theorem dX5_build_44 : decode cX5_build 44 = .ok (.ifCond .eq 7, 3) := by decide +kernel
theorem dX5_build_47 : decode cX5_build 47 = .ok (.iconst 1, 1) := by decide +kernel
theorem dX5_build_48 : decode cX5_build 48 = .ok (.goto 4, 3) := by decide +kernel
theorem dX5_build_51 : decode cX5_build 51 = .ok (.iconst 0, 1) := by decide +kernel
theorem dX5_build_52 : decode cX5_build 52 = .ok (.iload_n 2, 1) := by decide +kernel
theorem dX5_build_53 : decode cX5_build 53 = .ok (.ifCond .eq 7, 3) := by decide +kernel
theorem dX5_build_56 : decode cX5_build 56 = .ok (.iconst 1, 1) := by decide +kernel
theorem dX5_build_57 : decode cX5_build 57 = .ok (.goto 4, 3) := by decide +kernel
theorem dX5_build_60 : decode cX5_build 60 = .ok (.iconst 0, 1) := by decide +kernel
theorem dX5_build_61 : decode cX5_build 61 = .ok (.iload_n 3, 1) := by decide +kernel
theorem dX5_build_62 : decode cX5_build 62 = .ok (.iload 4, 2) := by decide +kernel
theorem dX5_build_64 : decode cX5_build 64 = .ok (.iconst 0, 1) := by decide +kernel
theorem dX5_build_65 : decode cX5_build 65 = .ok (.invokevirtual 110, 3) := by decide +kernel
theorem dX5_build_68 : decode cX5_build 68 = .ok (.aload_n 0, 1) := by decide +kernel
theorem dX5_build_69 : decode cX5_build 69 = .ok (.getfield 7, 3) := by decide +kernel
theorem dX5_build_72 : decode cX5_build 72 = .ok (.iconst 2, 1) := by decide +kernel
theorem dX5_build_73 : decode cX5_build 73 = .ok (.iaload, 1) := by decide +kernel
theorem dX5_build_74 : decode cX5_build 74 = .ok (.iconst 1, 1) := by decide +kernel
theorem dX5_build_75 : decode cX5_build 75 = .ok (.isub, 1) := by decide +kernel
theorem dX5_build_76 : decode cX5_build 76 = .ok (.ireturn, 1) := by decide +kernel
theorem dX5_toldMany_0 : decode cX5_toldMany 0 = .ok (.iconst 0, 1) := by decide +kernel
theorem dX5_toldMany_1 : decode cX5_toldMany 1 = .ok (.istore_n 1, 1) := by decide +kernel
theorem dX5_toldMany_2 : decode cX5_toldMany 2 = .ok (.iconst 0, 1) := by decide +kernel
theorem dX5_toldMany_3 : decode cX5_toldMany 3 = .ok (.istore_n 2, 1) := by decide +kernel
theorem dX5_toldMany_4 : decode cX5_toldMany 4 = .ok (.aload_n 0, 1) := by decide +kernel
theorem dX5_toldMany_5 : decode cX5_toldMany 5 = .ok (.iconst 0, 1) := by decide +kernel
theorem dX5_toldMany_6 : decode cX5_toldMany 6 = .ok (.putfield 114, 3) := by decide +kernel
theorem dX5_toldMany_9 : decode cX5_toldMany 9 = .ok (.aload_n 0, 1) := by decide +kernel
theorem dX5_toldMany_10 : decode cX5_toldMany 10 = .ok (.getfield 114, 3) := by decide +kernel
theorem dX5_toldMany_13 : decode cX5_toldMany 13 = .ok (.aload_n 0, 1) := by decide +kernel
theorem dX5_toldMany_14 : decode cX5_toldMany 14 = .ok (.getfield 117, 3) := by decide +kernel
theorem dX5_toldMany_17 : decode cX5_toldMany 17 = .ok (.if_icmp .ge 29, 3) := by decide +kernel
theorem dX5_toldMany_20 : decode cX5_toldMany 20 = .ok (.aload_n 0, 1) := by decide +kernel
theorem dX5_toldMany_21 : decode cX5_toldMany 21 = .ok (.iload_n 1, 1) := by decide +kernel
theorem dX5_toldMany_22 : decode cX5_toldMany 22 = .ok (.invokevirtual 120, 3) := by decide +kernel
theorem dX5_toldMany_25 : decode cX5_toldMany 25 = .ok (.pop, 1) := by decide +kernel
theorem dX5_toldMany_26 : decode cX5_toldMany 26 = .ok (.aload_n 0, 1) := by decide +kernel
theorem dX5_toldMany_27 : decode cX5_toldMany 27 = .ok (.bipush 59, 2) := by decide +kernel
theorem dX5_toldMany_29 : decode cX5_toldMany 29 = .ok (.invokevirtual 123, 3) := by decide +kernel
theorem dX5_toldMany_32 : decode cX5_toldMany 32 = .ok (.pop, 1) := by decide +kernel
theorem dX5_toldMany_33 : decode cX5_toldMany 33 = .ok (.iload_n 2, 1) := by decide +kernel
theorem dX5_toldMany_34 : decode cX5_toldMany 34 = .ok (.aload_n 0, 1) := by decide +kernel
theorem dX5_toldMany_35 : decode cX5_toldMany 35 = .ok (.getfield 126, 3) := by decide +kernel
theorem dX5_toldMany_38 : decode cX5_toldMany 38 = .ok (.ior, 1) := by decide +kernel
theorem dX5_toldMany_39 : decode cX5_toldMany 39 = .ok (.istore_n 2, 1) := by decide +kernel
theorem dX5_toldMany_40 : decode cX5_toldMany 40 = .ok (.iinc 1 1, 3) := by decide +kernel
theorem dX5_toldMany_43 : decode cX5_toldMany 43 = .ok (.goto (-34), 3) := by decide +kernel
theorem dX5_toldMany_46 : decode cX5_toldMany 46 = .ok (.iload_n 2, 1) := by decide +kernel
theorem dX5_toldMany_47 : decode cX5_toldMany 47 = .ok (.iload_n 1, 1) := by decide +kernel
theorem dX5_toldMany_48 : decode cX5_toldMany 48 = .ok (.ishr, 1) := by decide +kernel
theorem dX5_toldMany_49 : decode cX5_toldMany 49 = .ok (.ifCond .eq 7, 3) := by decide +kernel
theorem dX5_toldMany_52 : decode cX5_toldMany 52 = .ok (.iconst (-1), 1) := by decide +kernel
theorem dX5_toldMany_53 : decode cX5_toldMany 53 = .ok (.goto 4, 3) := by decide +kernel
theorem dX5_toldMany_56 : decode cX5_toldMany 56 = .ok (.iload_n 1, 1) := by decide +kernel
theorem dX5_toldMany_57 : decode cX5_toldMany 57 = .ok (.ireturn, 1) := by decide +kernel
theorem dX5_read_0 : decode cX5_read 0 = .ok (.aload_n 0, 1) := by decide +kernel
theorem dX5_read_1 : decode cX5_read 1 = .ok (.invokevirtual 129, 3) := by decide +kernel
theorem dX5_read_4 : decode cX5_read 4 = .ok (.bipush (-6), 2) := by decide +kernel
theorem dX5_read_6 : decode cX5_read 6 = .ok (.if_icmp .eq 6, 3) := by decide +kernel
theorem dX5_read_9 : decode cX5_read 9 = .ok (.bipush (-3), 2) := by decide +kernel
theorem dX5_read_11 : decode cX5_read 11 = .ok (.ireturn, 1) := by decide +kernel
theorem dX5_read_12 : decode cX5_read 12 = .ok (.aload_n 0, 1) := by decide +kernel
theorem dX5_read_13 : decode cX5_read 13 = .ok (.invokevirtual 132, 3) := by decide +kernel
theorem dX5_read_16 : decode cX5_read 16 = .ok (.istore_n 1, 1) := by decide +kernel
theorem dX5_read_17 : decode cX5_read 17 = .ok (.iload_n 1, 1) := by decide +kernel
theorem dX5_read_18 : decode cX5_read 18 = .ok (.ifCond .ge 5, 3) := by decide +kernel
theorem dX5_read_21 : decode cX5_read 21 = .ok (.iconst (-1), 1) := by decide +kernel
theorem dX5_read_22 : decode cX5_read 22 = .ok (.ireturn, 1) := by decide +kernel
theorem dX5_read_23 : decode cX5_read 23 = .ok (.aload_n 0, 1) := by decide +kernel
theorem dX5_read_24 : decode cX5_read 24 = .ok (.invokevirtual 107, 3) := by decide +kernel
theorem dX5_read_27 : decode cX5_read 27 = .ok (.iconst 2, 1) := by decide +kernel
theorem dX5_read_28 : decode cX5_read 28 = .ok (.istore_n 2, 1) := by decide +kernel
theorem dX5_read_29 : decode cX5_read 29 = .ok (.iload_n 2, 1) := by decide +kernel
theorem dX5_read_30 : decode cX5_read 30 = .ok (.bipush 96, 2) := by decide +kernel
theorem dX5_read_32 : decode cX5_read 32 = .ok (.if_icmp .ge 16, 3) := by decide +kernel
theorem dX5_read_35 : decode cX5_read 35 = .ok (.aload_n 0, 1) := by decide +kernel
theorem dX5_read_36 : decode cX5_read 36 = .ok (.getfield 7, 3) := by decide +kernel
theorem dX5_read_39 : decode cX5_read 39 = .ok (.iload_n 2, 1) := by decide +kernel
theorem dX5_read_40 : decode cX5_read 40 = .ok (.iconst 0, 1) := by decide +kernel
theorem dX5_read_41 : decode cX5_read 41 = .ok (.iastore, 1) := by decide +kernel
theorem dX5_read_42 : decode cX5_read 42 = .ok (.iinc 2 1, 3) := by decide +kernel
theorem dX5_read_45 : decode cX5_read 45 = .ok (.goto (-16), 3) := by decide +kernel
theorem dX5_read_48 : decode cX5_read 48 = .ok (.aload_n 0, 1) := by decide +kernel
theorem dX5_read_49 : decode cX5_read 49 = .ok (.iconst 0, 1) := by decide +kernel
theorem dX5_read_50 : decode cX5_read 50 = .ok (.putfield 114, 3) := by decide +kernel
theorem dX5_read_53 : decode cX5_read 53 = .ok (.aload_n 0, 1) := by decide +kernel
theorem dX5_read_54 : decode cX5_read 54 = .ok (.getfield 114, 3) := by decide +kernel
theorem dX5_read_57 : decode cX5_read 57 = .ok (.aload_n 0, 1) := by decide +kernel
theorem dX5_read_58 : decode cX5_read 58 = .ok (.getfield 117, 3) := by decide +kernel
theorem dX5_read_61 : decode cX5_read 61 = .ok (.if_icmp .ge 48, 3) := by decide +kernel
theorem dX5_read_64 : decode cX5_read 64 = .ok (.aload_n 0, 1) := by decide +kernel
theorem dX5_read_65 : decode cX5_read 65 = .ok (.aload_n 0, 1) := by decide +kernel
theorem dX5_read_66 : decode cX5_read 66 = .ok (.getfield 7, 3) := by decide +kernel
theorem dX5_read_69 : decode cX5_read 69 = .ok (.iconst 2, 1) := by decide +kernel
theorem dX5_read_70 : decode cX5_read 70 = .ok (.iaload, 1) := by decide +kernel
theorem dX5_read_71 : decode cX5_read 71 = .ok (.invokevirtual 120, 3) := by decide +kernel
theorem dX5_read_74 : decode cX5_read 74 = .ok (.pop, 1) := by decide +kernel
theorem dX5_read_75 : decode cX5_read 75 = .ok (.aload_n 0, 1) := by decide +kernel
theorem dX5_read_76 : decode cX5_read 76 = .ok (.bipush 59, 2) := by decide +kernel
theorem dX5_read_78 : decode cX5_read 78 = .ok (.invokevirtual 123, 3) := by decide +kernel
theorem dX5_read_81 : decode cX5_read 81 = .ok (.pop, 1) := by decide +kernel
theorem dX5_read_82 : decode cX5_read 82 = .ok (.aload_n 0, 1) := by decide +kernel
theorem dX5_read_83 : decode cX5_read 83 = .ok (.aload_n 0, 1) := by decide +kernel
theorem dX5_read_84 : decode cX5_read 84 = .ok (.getfield 135, 3) := by decide +kernel
theorem dX5_read_87 : decode cX5_read 87 = .ok (.aload_n 0, 1) := by decide +kernel
theorem dX5_read_88 : decode cX5_read 88 = .ok (.getfield 138, 3) := by decide +kernel
theorem dX5_read_91 : decode cX5_read 91 = .ok (.aload_n 0, 1) := by decide +kernel
theorem dX5_read_92 : decode cX5_read 92 = .ok (.getfield 141, 3) := by decide +kernel
theorem dX5_read_95 : decode cX5_read 95 = .ok (.aload_n 0, 1) := by decide +kernel
theorem dX5_read_96 : decode cX5_read 96 = .ok (.getfield 144, 3) := by decide +kernel
theorem dX5_read_99 : decode cX5_read 99 = .ok (.aload_n 0, 1) := by decide +kernel
theorem dX5_read_100 : decode cX5_read 100 = .ok (.getfield 126, 3) := by decide +kernel
theorem dX5_read_103 : decode cX5_read 103 = .ok (.invokevirtual 110, 3) := by decide +kernel
theorem dX5_read_106 : decode cX5_read 106 = .ok (.goto (-53), 3) := by decide +kernel
theorem dX5_read_109 : decode cX5_read 109 = .ok (.aload_n 0, 1) := by decide +kernel
theorem dX5_read_110 : decode cX5_read 110 = .ok (.iconst 0, 1) := by decide +kernel
theorem dX5_read_111 : decode cX5_read 111 = .ok (.putfield 117, 3) := by decide +kernel
theorem dX5_read_114 : decode cX5_read 114 = .ok (.iload_n 1, 1) := by decide +kernel
theorem dX5_read_115 : decode cX5_read 115 = .ok (.ireturn, 1) := by decide +kernel
theorem dX5_link_0 : decode cX5_link 0 = .ok (.aload_n 0, 1) := by decide +kernel
theorem dX5_link_1 : decode cX5_link 1 = .ok (.iload_n 1, 1) := by decide +kernel
theorem dX5_link_2 : decode cX5_link 2 = .ok (.invokevirtual 147, 3) := by decide +kernel
theorem dX5_link_5 : decode cX5_link 5 = .ok (.ifCond .eq 11, 3) := by decide +kernel
theorem dX5_link_8 : decode cX5_link 8 = .ok (.aload_n 0, 1) := by decide +kernel
theorem dX5_link_9 : decode cX5_link 9 = .ok (.iload_n 2, 1) := by decide +kernel
theorem dX5_link_10 : decode cX5_link 10 = .ok (.invokevirtual 147, 3) := by decide +kernel
theorem dX5_link_13 : decode cX5_link 13 = .ok (.ifCond .ne 5, 3) := by decide +kernel
theorem dX5_link_16 : decode cX5_link 16 = .ok (.iconst (-1), 1) := by decide +kernel
theorem dX5_link_17 : decode cX5_link 17 = .ok (.ireturn, 1) := by decide +kernel
theorem dX5_link_18 : decode cX5_link 18 = .ok (.iload_n 1, 1) := by decide +kernel
theorem dX5_link_19 : decode cX5_link 19 = .ok (.iload_n 2, 1) := by decide +kernel
theorem dX5_link_20 : decode cX5_link 20 = .ok (.if_icmp .ne 6, 3) := by decide +kernel
theorem dX5_link_23 : decode cX5_link 23 = .ok (.bipush (-2), 2) := by decide +kernel
theorem dX5_link_25 : decode cX5_link 25 = .ok (.ireturn, 1) := by decide +kernel
theorem dX5_link_26 : decode cX5_link 26 = .ok (.aload_n 0, 1) := by decide +kernel
theorem dX5_link_27 : decode cX5_link 27 = .ok (.iload_n 1, 1) := by decide +kernel
theorem dX5_link_28 : decode cX5_link 28 = .ok (.iload_n 2, 1) := by decide +kernel
theorem dX5_link_29 : decode cX5_link 29 = .ok (.invokevirtual 58, 3) := by decide +kernel
theorem dX5_link_32 : decode cX5_link 32 = .ok (.iload_n 3, 1) := by decide +kernel
theorem dX5_link_33 : decode cX5_link 33 = .ok (.if_icmp .ne 6, 3) := by decide +kernel
theorem dX5_link_36 : decode cX5_link 36 = .ok (.bipush (-5), 2) := by decide +kernel
theorem dX5_link_38 : decode cX5_link 38 = .ok (.ireturn, 1) := by decide +kernel
theorem dX5_link_39 : decode cX5_link 39 = .ok (.aload_n 0, 1) := by decide +kernel
theorem dX5_link_40 : decode cX5_link 40 = .ok (.invokevirtual 107, 3) := by decide +kernel
theorem dX5_link_43 : decode cX5_link 43 = .ok (.aload_n 0, 1) := by decide +kernel
theorem dX5_link_44 : decode cX5_link 44 = .ok (.iload_n 1, 1) := by decide +kernel
theorem dX5_link_45 : decode cX5_link 45 = .ok (.bipush 6, 2) := by decide +kernel
theorem dX5_link_47 : decode cX5_link 47 = .ok (.aload_n 0, 1) := by decide +kernel
theorem dX5_link_48 : decode cX5_link 48 = .ok (.iload_n 1, 1) := by decide +kernel
theorem dX5_link_49 : decode cX5_link 49 = .ok (.bipush 6, 2) := by decide +kernel
theorem dX5_link_51 : decode cX5_link 51 = .ok (.invokevirtual 46, 3) := by decide +kernel
theorem dX5_link_54 : decode cX5_link 54 = .ok (.iconst 1, 1) := by decide +kernel
theorem dX5_link_55 : decode cX5_link 55 = .ok (.iload_n 2, 1) := by decide +kernel
theorem dX5_link_56 : decode cX5_link 56 = .ok (.ishl, 1) := by decide +kernel
theorem dX5_link_57 : decode cX5_link 57 = .ok (.ixor, 1) := by decide +kernel
theorem dX5_link_58 : decode cX5_link 58 = .ok (.invokevirtual 68, 3) := by decide +kernel
theorem dX5_link_61 : decode cX5_link 61 = .ok (.aload_n 0, 1) := by decide +kernel
theorem dX5_link_62 : decode cX5_link 62 = .ok (.iload_n 1, 1) := by decide +kernel
theorem dX5_link_63 : decode cX5_link 63 = .ok (.bipush 6, 2) := by decide +kernel
theorem dX5_link_65 : decode cX5_link 65 = .ok (.invokevirtual 46, 3) := by decide +kernel
theorem dX5_link_68 : decode cX5_link 68 = .ok (.ireturn, 1) := by decide +kernel
theorem dX5_value_0 : decode cX5_value 0 = .ok (.aload_n 0, 1) := by decide +kernel
theorem dX5_value_1 : decode cX5_value 1 = .ok (.iload_n 1, 1) := by decide +kernel
theorem dX5_value_2 : decode cX5_value 2 = .ok (.invokevirtual 147, 3) := by decide +kernel
theorem dX5_value_5 : decode cX5_value 5 = .ok (.ifCond .ne 5, 3) := by decide +kernel
theorem dX5_value_8 : decode cX5_value 8 = .ok (.iconst (-1), 1) := by decide +kernel
theorem dX5_value_9 : decode cX5_value 9 = .ok (.ireturn, 1) := by decide +kernel
theorem dX5_value_10 : decode cX5_value 10 = .ok (.iload_n 2, 1) := by decide +kernel
theorem dX5_value_11 : decode cX5_value 11 = .ok (.iconst 0, 1) := by decide +kernel
theorem dX5_value_12 : decode cX5_value 12 = .ok (.sipush 255, 3) := by decide +kernel
theorem dX5_value_15 : decode cX5_value 15 = .ok (.invokestatic 42, 3) := by decide +kernel
theorem dX5_value_18 : decode cX5_value 18 = .ok (.ifCond .ne 6, 3) := by decide +kernel
theorem dX5_value_21 : decode cX5_value 21 = .ok (.bipush (-2), 2) := by decide +kernel
theorem dX5_value_23 : decode cX5_value 23 = .ok (.ireturn, 1) := by decide +kernel
theorem dX5_value_24 : decode cX5_value 24 = .ok (.aload_n 0, 1) := by decide +kernel
theorem dX5_value_25 : decode cX5_value 25 = .ok (.iload_n 1, 1) := by decide +kernel
theorem dX5_value_26 : decode cX5_value 26 = .ok (.iconst 0, 1) := by decide +kernel
theorem dX5_value_27 : decode cX5_value 27 = .ok (.invokevirtual 50, 3) := by decide +kernel
theorem dX5_value_30 : decode cX5_value 30 = .ok (.ifCond .ne 6, 3) := by decide +kernel
theorem dX5_value_33 : decode cX5_value 33 = .ok (.bipush (-5), 2) := by decide +kernel
theorem dX5_value_35 : decode cX5_value 35 = .ok (.ireturn, 1) := by decide +kernel
theorem dX5_value_36 : decode cX5_value 36 = .ok (.aload_n 0, 1) := by decide +kernel
theorem dX5_value_37 : decode cX5_value 37 = .ok (.invokevirtual 107, 3) := by decide +kernel
theorem dX5_value_40 : decode cX5_value 40 = .ok (.aload_n 0, 1) := by decide +kernel
theorem dX5_value_41 : decode cX5_value 41 = .ok (.iload_n 1, 1) := by decide +kernel
theorem dX5_value_42 : decode cX5_value 42 = .ok (.iconst 4, 1) := by decide +kernel
theorem dX5_value_43 : decode cX5_value 43 = .ok (.invokevirtual 46, 3) := by decide +kernel
theorem dX5_value_46 : decode cX5_value 46 = .ok (.istore_n 3, 1) := by decide +kernel
theorem dX5_value_47 : decode cX5_value 47 = .ok (.aload_n 0, 1) := by decide +kernel
theorem dX5_value_48 : decode cX5_value 48 = .ok (.iload_n 1, 1) := by decide +kernel
theorem dX5_value_49 : decode cX5_value 49 = .ok (.iconst 4, 1) := by decide +kernel
theorem dX5_value_50 : decode cX5_value 50 = .ok (.iload_n 2, 1) := by decide +kernel
theorem dX5_value_51 : decode cX5_value 51 = .ok (.invokevirtual 68, 3) := by decide +kernel
theorem dX5_value_54 : decode cX5_value 54 = .ok (.iload_n 3, 1) := by decide +kernel
theorem dX5_value_55 : decode cX5_value 55 = .ok (.ireturn, 1) := by decide +kernel
theorem dX5_sleep_0 : decode cX5_sleep 0 = .ok (.aload_n 0, 1) := by decide +kernel
theorem dX5_sleep_1 : decode cX5_sleep 1 = .ok (.iload_n 1, 1) := by decide +kernel
theorem dX5_sleep_2 : decode cX5_sleep 2 = .ok (.invokevirtual 147, 3) := by decide +kernel
theorem dX5_sleep_5 : decode cX5_sleep 5 = .ok (.ifCond .ne 5, 3) := by decide +kernel
theorem dX5_sleep_8 : decode cX5_sleep 8 = .ok (.iconst (-1), 1) := by decide +kernel
theorem dX5_sleep_9 : decode cX5_sleep 9 = .ok (.ireturn, 1) := by decide +kernel
theorem dX5_sleep_10 : decode cX5_sleep 10 = .ok (.aload_n 0, 1) := by decide +kernel
theorem dX5_sleep_11 : decode cX5_sleep 11 = .ok (.iload_n 1, 1) := by decide +kernel
theorem dX5_sleep_12 : decode cX5_sleep 12 = .ok (.iconst 0, 1) := by decide +kernel
theorem dX5_sleep_13 : decode cX5_sleep 13 = .ok (.invokevirtual 50, 3) := by decide +kernel
theorem dX5_sleep_16 : decode cX5_sleep 16 = .ok (.ifCond .ne 6, 3) := by decide +kernel
theorem dX5_sleep_19 : decode cX5_sleep 19 = .ok (.bipush (-5), 2) := by decide +kernel
theorem dX5_sleep_21 : decode cX5_sleep 21 = .ok (.ireturn, 1) := by decide +kernel
theorem dX5_sleep_22 : decode cX5_sleep 22 = .ok (.aload_n 0, 1) := by decide +kernel
theorem dX5_sleep_23 : decode cX5_sleep 23 = .ok (.invokevirtual 107, 3) := by decide +kernel
theorem dX5_sleep_26 : decode cX5_sleep 26 = .ok (.aload_n 0, 1) := by decide +kernel
theorem dX5_sleep_27 : decode cX5_sleep 27 = .ok (.iload_n 1, 1) := by decide +kernel
theorem dX5_sleep_28 : decode cX5_sleep 28 = .ok (.bipush 7, 2) := by decide +kernel
theorem dX5_sleep_30 : decode cX5_sleep 30 = .ok (.iconst 1, 1) := by decide +kernel
theorem dX5_sleep_31 : decode cX5_sleep 31 = .ok (.invokevirtual 68, 3) := by decide +kernel
theorem dX5_sleep_34 : decode cX5_sleep 34 = .ok (.aload_n 0, 1) := by decide +kernel
theorem dX5_sleep_35 : decode cX5_sleep 35 = .ok (.iload_n 1, 1) := by decide +kernel
theorem dX5_sleep_36 : decode cX5_sleep 36 = .ok (.invokevirtual 75, 3) := by decide +kernel
theorem dX5_sleep_39 : decode cX5_sleep 39 = .ok (.invokestatic 150, 3) := by decide +kernel
theorem dX5_sleep_42 : decode cX5_sleep 42 = .ok (.ireturn, 1) := by decide +kernel
theorem dX5_wake_0 : decode cX5_wake 0 = .ok (.aload_n 0, 1) := by decide +kernel
theorem dX5_wake_1 : decode cX5_wake 1 = .ok (.iload_n 1, 1) := by decide +kernel
theorem dX5_wake_2 : decode cX5_wake 2 = .ok (.invokevirtual 147, 3) := by decide +kernel
theorem dX5_wake_5 : decode cX5_wake 5 = .ok (.ifCond .ne 5, 3) := by decide +kernel
theorem dX5_wake_8 : decode cX5_wake 8 = .ok (.iconst (-1), 1) := by decide +kernel
theorem dX5_wake_9 : decode cX5_wake 9 = .ok (.ireturn, 1) := by decide +kernel
theorem dX5_wake_10 : decode cX5_wake 10 = .ok (.aload_n 0, 1) := by decide +kernel
theorem dX5_wake_11 : decode cX5_wake 11 = .ok (.iload_n 1, 1) := by decide +kernel
theorem dX5_wake_12 : decode cX5_wake 12 = .ok (.iconst 2, 1) := by decide +kernel
theorem dX5_wake_13 : decode cX5_wake 13 = .ok (.invokevirtual 50, 3) := by decide +kernel
theorem dX5_wake_16 : decode cX5_wake 16 = .ok (.ifCond .ne 6, 3) := by decide +kernel
theorem dX5_wake_19 : decode cX5_wake 19 = .ok (.bipush (-5), 2) := by decide +kernel
theorem dX5_wake_21 : decode cX5_wake 21 = .ok (.ireturn, 1) := by decide +kernel
theorem dX5_wake_22 : decode cX5_wake 22 = .ok (.aload_n 0, 1) := by decide +kernel
theorem dX5_wake_23 : decode cX5_wake 23 = .ok (.invokevirtual 107, 3) := by decide +kernel
theorem dX5_wake_26 : decode cX5_wake 26 = .ok (.aload_n 0, 1) := by decide +kernel
theorem dX5_wake_27 : decode cX5_wake 27 = .ok (.iload_n 1, 1) := by decide +kernel
theorem dX5_wake_28 : decode cX5_wake 28 = .ok (.invokevirtual 78, 3) := by decide +kernel
theorem dX5_wake_31 : decode cX5_wake 31 = .ok (.aload_n 0, 1) := by decide +kernel
theorem dX5_wake_32 : decode cX5_wake 32 = .ok (.getfield 7, 3) := by decide +kernel
theorem dX5_wake_35 : decode cX5_wake 35 = .ok (.bipush 7, 2) := by decide +kernel
theorem dX5_wake_37 : decode cX5_wake 37 = .ok (.iaload, 1) := by decide +kernel
theorem dX5_wake_38 : decode cX5_wake 38 = .ok (.ireturn, 1) := by decide +kernel
theorem dX5_pass_0 : decode cX5_pass 0 = .ok (.iload_n 1, 1) := by decide +kernel
theorem dX5_pass_1 : decode cX5_pass 1 = .ok (.iconst 1, 1) := by decide +kernel
theorem dX5_pass_2 : decode cX5_pass 2 = .ok (.sipush 200, 3) := by decide +kernel
theorem dX5_pass_5 : decode cX5_pass 5 = .ok (.invokestatic 42, 3) := by decide +kernel
theorem dX5_pass_8 : decode cX5_pass 8 = .ok (.ifCond .ne 6, 3) := by decide +kernel
theorem dX5_pass_11 : decode cX5_pass 11 = .ok (.bipush (-2), 2) := by decide +kernel
theorem dX5_pass_13 : decode cX5_pass 13 = .ok (.ireturn, 1) := by decide +kernel
theorem dX5_pass_14 : decode cX5_pass 14 = .ok (.aload_n 0, 1) := by decide +kernel
theorem dX5_pass_15 : decode cX5_pass 15 = .ok (.invokevirtual 107, 3) := by decide +kernel
theorem dX5_pass_18 : decode cX5_pass 18 = .ok (.aload_n 0, 1) := by decide +kernel
theorem dX5_pass_19 : decode cX5_pass 19 = .ok (.iload_n 1, 1) := by decide +kernel
theorem dX5_pass_20 : decode cX5_pass 20 = .ok (.invokevirtual 153, 3) := by decide +kernel
theorem dX5_pass_23 : decode cX5_pass 23 = .ok (.ireturn, 1) := by decide +kernel
theorem dX5_of_0 : decode cX5_of 0 = .ok (.aload_n 0, 1) := by decide +kernel
theorem dX5_of_1 : decode cX5_of 1 = .ok (.iload_n 1, 1) := by decide +kernel
theorem dX5_of_2 : decode cX5_of 2 = .ok (.invokevirtual 147, 3) := by decide +kernel
theorem dX5_of_5 : decode cX5_of 5 = .ok (.ifCond .ne 5, 3) := by decide +kernel
theorem dX5_of_8 : decode cX5_of 8 = .ok (.iconst (-1), 1) := by decide +kernel
theorem dX5_of_9 : decode cX5_of 9 = .ok (.ireturn, 1) := by decide +kernel
theorem dX5_of_10 : decode cX5_of 10 = .ok (.iload_n 2, 1) := by decide +kernel
theorem dX5_of_11 : decode cX5_of 11 = .ok (.tableswitch 170 0 12 #[65, 73, 80, 87, 94, 101, 108, 115, 123, 129, 135, 156, 162], 65) := by decide +kernel
theorem dX5_of_76 : decode cX5_of 76 = .ok (.aload_n 0, 1) := by decide +kernel
theorem dX5_of_77 : decode cX5_of 77 = .ok (.iload_n 1, 1) := by decide +kernel
theorem dX5_of_78 : decode cX5_of 78 = .ok (.bipush 7, 2) := by decide +kernel
theorem dX5_of_80 : decode cX5_of 80 = .ok (.invokevirtual 46, 3) := by decide +kernel
theorem dX5_of_83 : decode cX5_of 83 = .ok (.ireturn, 1) := by decide +kernel
theorem dX5_of_84 : decode cX5_of 84 = .ok (.aload_n 0, 1) := by decide +kernel
theorem dX5_of_85 : decode cX5_of 85 = .ok (.iload_n 1, 1) := by decide +kernel
theorem dX5_of_86 : decode cX5_of 86 = .ok (.iconst 4, 1) := by decide +kernel
theorem dX5_of_87 : decode cX5_of 87 = .ok (.invokevirtual 46, 3) := by decide +kernel
theorem dX5_of_90 : decode cX5_of 90 = .ok (.ireturn, 1) := by decide +kernel
theorem dX5_of_91 : decode cX5_of 91 = .ok (.aload_n 0, 1) := by decide +kernel
theorem dX5_of_92 : decode cX5_of 92 = .ok (.iload_n 1, 1) := by decide +kernel
theorem dX5_of_93 : decode cX5_of 93 = .ok (.iconst 5, 1) := by decide +kernel
theorem dX5_of_94 : decode cX5_of 94 = .ok (.invokevirtual 46, 3) := by decide +kernel
theorem dX5_of_97 : decode cX5_of 97 = .ok (.ireturn, 1) := by decide +kernel
theorem dX5_of_98 : decode cX5_of 98 = .ok (.aload_n 0, 1) := by decide +kernel
theorem dX5_of_99 : decode cX5_of 99 = .ok (.iload_n 1, 1) := by decide +kernel
theorem dX5_of_100 : decode cX5_of 100 = .ok (.iconst 0, 1) := by decide +kernel
theorem dX5_of_101 : decode cX5_of 101 = .ok (.invokevirtual 46, 3) := by decide +kernel
theorem dX5_of_104 : decode cX5_of 104 = .ok (.ireturn, 1) := by decide +kernel
theorem dX5_of_105 : decode cX5_of 105 = .ok (.aload_n 0, 1) := by decide +kernel
theorem dX5_of_106 : decode cX5_of 106 = .ok (.iload_n 1, 1) := by decide +kernel
theorem dX5_of_107 : decode cX5_of 107 = .ok (.iconst 1, 1) := by decide +kernel
theorem dX5_of_108 : decode cX5_of 108 = .ok (.invokevirtual 46, 3) := by decide +kernel
theorem dX5_of_111 : decode cX5_of 111 = .ok (.ireturn, 1) := by decide +kernel
theorem dX5_of_112 : decode cX5_of 112 = .ok (.aload_n 0, 1) := by decide +kernel
theorem dX5_of_113 : decode cX5_of 113 = .ok (.iload_n 1, 1) := by decide +kernel
theorem dX5_of_114 : decode cX5_of 114 = .ok (.iconst 2, 1) := by decide +kernel
theorem dX5_of_115 : decode cX5_of 115 = .ok (.invokevirtual 46, 3) := by decide +kernel
theorem dX5_of_118 : decode cX5_of 118 = .ok (.ireturn, 1) := by decide +kernel
theorem dX5_of_119 : decode cX5_of 119 = .ok (.aload_n 0, 1) := by decide +kernel
theorem dX5_of_120 : decode cX5_of 120 = .ok (.iload_n 1, 1) := by decide +kernel
theorem dX5_of_121 : decode cX5_of 121 = .ok (.iconst 3, 1) := by decide +kernel
theorem dX5_of_122 : decode cX5_of 122 = .ok (.invokevirtual 46, 3) := by decide +kernel
theorem dX5_of_125 : decode cX5_of 125 = .ok (.ireturn, 1) := by decide +kernel
theorem dX5_of_126 : decode cX5_of 126 = .ok (.aload_n 0, 1) := by decide +kernel
theorem dX5_of_127 : decode cX5_of 127 = .ok (.iload_n 1, 1) := by decide +kernel
theorem dX5_of_128 : decode cX5_of 128 = .ok (.bipush 6, 2) := by decide +kernel
theorem dX5_of_130 : decode cX5_of 130 = .ok (.invokevirtual 46, 3) := by decide +kernel
theorem dX5_of_133 : decode cX5_of 133 = .ok (.ireturn, 1) := by decide +kernel
theorem dX5_of_134 : decode cX5_of 134 = .ok (.aload_n 0, 1) := by decide +kernel
theorem dX5_of_135 : decode cX5_of 135 = .ok (.iload_n 1, 1) := by decide +kernel
theorem dX5_of_136 : decode cX5_of 136 = .ok (.invokevirtual 61, 3) := by decide +kernel
theorem dX5_of_139 : decode cX5_of 139 = .ok (.ireturn, 1) := by decide +kernel
theorem dX5_of_140 : decode cX5_of 140 = .ok (.aload_n 0, 1) := by decide +kernel
theorem dX5_of_141 : decode cX5_of 141 = .ok (.iload_n 1, 1) := by decide +kernel
theorem dX5_of_142 : decode cX5_of 142 = .ok (.invokevirtual 72, 3) := by decide +kernel
theorem dX5_of_145 : decode cX5_of 145 = .ok (.ireturn, 1) := by decide +kernel
theorem dX5_of_146 : decode cX5_of 146 = .ok (.aload_n 0, 1) := by decide +kernel
theorem dX5_of_147 : decode cX5_of 147 = .ok (.iload_n 1, 1) := by decide +kernel
theorem dX5_of_148 : decode cX5_of 148 = .ok (.iconst 4, 1) := by decide +kernel
theorem dX5_of_149 : decode cX5_of 149 = .ok (.invokevirtual 50, 3) := by decide +kernel
theorem dX5_of_152 : decode cX5_of 152 = .ok (.ifCond .eq 13, 3) := by decide +kernel
theorem dX5_of_155 : decode cX5_of 155 = .ok (.aload_n 0, 1) := by decide +kernel
theorem dX5_of_156 : decode cX5_of 156 = .ok (.iload_n 1, 1) := by decide +kernel
theorem dX5_of_157 : decode cX5_of 157 = .ok (.bipush 8, 2) := by decide +kernel
theorem dX5_of_159 : decode cX5_of 159 = .ok (.invokevirtual 46, 3) := by decide +kernel
theorem dX5_of_162 : decode cX5_of 162 = .ok (.goto 4, 3) := by decide +kernel
theorem dX5_of_165 : decode cX5_of 165 = .ok (.iconst 0, 1) := by decide +kernel
theorem dX5_of_166 : decode cX5_of 166 = .ok (.ireturn, 1) := by decide +kernel
theorem dX5_of_167 : decode cX5_of 167 = .ok (.aload_n 0, 1) := by decide +kernel
theorem dX5_of_168 : decode cX5_of 168 = .ok (.iload_n 1, 1) := by decide +kernel
theorem dX5_of_169 : decode cX5_of 169 = .ok (.invokevirtual 156, 3) := by decide +kernel
theorem dX5_of_172 : decode cX5_of 172 = .ok (.ireturn, 1) := by decide +kernel
theorem dX5_of_173 : decode cX5_of 173 = .ok (.aload_n 0, 1) := by decide +kernel
theorem dX5_of_174 : decode cX5_of 174 = .ok (.iload_n 1, 1) := by decide +kernel
theorem dX5_of_175 : decode cX5_of 175 = .ok (.bipush 9, 2) := by decide +kernel
theorem dX5_of_177 : decode cX5_of 177 = .ok (.invokevirtual 46, 3) := by decide +kernel
theorem dX5_of_180 : decode cX5_of 180 = .ok (.ireturn, 1) := by decide +kernel
theorem dX5_of_181 : decode cX5_of 181 = .ok (.bipush (-2), 2) := by decide +kernel
theorem dX5_of_183 : decode cX5_of 183 = .ok (.ireturn, 1) := by decide +kernel
theorem dX5_count_0 : decode cX5_count 0 = .ok (.iload_n 1, 1) := by decide +kernel
theorem dX5_count_1 : decode cX5_count 1 = .ok (.tableswitch 156 0 13 #[71, 78, 84, 90, 96, 102, 107, 115, 122, 129, 136, 136, 146, 151], 71) := by decide +kernel
theorem dX5_count_72 : decode cX5_count 72 = .ok (.aload_n 0, 1) := by decide +kernel
theorem dX5_count_73 : decode cX5_count 73 = .ok (.getfield 7, 3) := by decide +kernel
theorem dX5_count_76 : decode cX5_count 76 = .ok (.iconst 2, 1) := by decide +kernel
theorem dX5_count_77 : decode cX5_count 77 = .ok (.iaload, 1) := by decide +kernel
theorem dX5_count_78 : decode cX5_count 78 = .ok (.ireturn, 1) := by decide +kernel
theorem dX5_count_79 : decode cX5_count 79 = .ok (.aload_n 0, 1) := by decide +kernel
theorem dX5_count_80 : decode cX5_count 80 = .ok (.iconst 0, 1) := by decide +kernel
theorem dX5_count_81 : decode cX5_count 81 = .ok (.invokevirtual 65, 3) := by decide +kernel
theorem dX5_count_84 : decode cX5_count 84 = .ok (.ireturn, 1) := by decide +kernel
theorem dX5_count_85 : decode cX5_count 85 = .ok (.aload_n 0, 1) := by decide +kernel
theorem dX5_count_86 : decode cX5_count 86 = .ok (.iconst 2, 1) := by decide +kernel
theorem dX5_count_87 : decode cX5_count 87 = .ok (.invokevirtual 65, 3) := by decide +kernel
theorem dX5_count_90 : decode cX5_count 90 = .ok (.ireturn, 1) := by decide +kernel
theorem dX5_count_91 : decode cX5_count 91 = .ok (.aload_n 0, 1) := by decide +kernel
theorem dX5_count_92 : decode cX5_count 92 = .ok (.iconst 3, 1) := by decide +kernel
theorem dX5_count_93 : decode cX5_count 93 = .ok (.invokevirtual 65, 3) := by decide +kernel
theorem dX5_count_96 : decode cX5_count 96 = .ok (.ireturn, 1) := by decide +kernel
theorem dX5_count_97 : decode cX5_count 97 = .ok (.aload_n 0, 1) := by decide +kernel
theorem dX5_count_98 : decode cX5_count 98 = .ok (.iconst 4, 1) := by decide +kernel
theorem dX5_count_99 : decode cX5_count 99 = .ok (.invokevirtual 65, 3) := by decide +kernel
theorem dX5_count_102 : decode cX5_count 102 = .ok (.ireturn, 1) := by decide +kernel
theorem dX5_count_103 : decode cX5_count 103 = .ok (.aload_n 0, 1) := by decide +kernel
theorem dX5_count_104 : decode cX5_count 104 = .ok (.invokevirtual 82, 3) := by decide +kernel
theorem dX5_count_107 : decode cX5_count 107 = .ok (.ireturn, 1) := by decide +kernel
theorem dX5_count_108 : decode cX5_count 108 = .ok (.aload_n 0, 1) := by decide +kernel
theorem dX5_count_109 : decode cX5_count 109 = .ok (.getfield 7, 3) := by decide +kernel
theorem dX5_count_112 : decode cX5_count 112 = .ok (.bipush 6, 2) := by decide +kernel
theorem dX5_count_114 : decode cX5_count 114 = .ok (.iaload, 1) := by decide +kernel
theorem dX5_count_115 : decode cX5_count 115 = .ok (.ireturn, 1) := by decide +kernel
theorem dX5_count_116 : decode cX5_count 116 = .ok (.aload_n 0, 1) := by decide +kernel
theorem dX5_count_117 : decode cX5_count 117 = .ok (.getfield 7, 3) := by decide +kernel
theorem dX5_count_120 : decode cX5_count 120 = .ok (.iconst 4, 1) := by decide +kernel
theorem dX5_count_121 : decode cX5_count 121 = .ok (.iaload, 1) := by decide +kernel
theorem dX5_count_122 : decode cX5_count 122 = .ok (.ireturn, 1) := by decide +kernel
theorem dX5_count_123 : decode cX5_count 123 = .ok (.aload_n 0, 1) := by decide +kernel
theorem dX5_count_124 : decode cX5_count 124 = .ok (.getfield 7, 3) := by decide +kernel
theorem dX5_count_127 : decode cX5_count 127 = .ok (.iconst 5, 1) := by decide +kernel
theorem dX5_count_128 : decode cX5_count 128 = .ok (.iaload, 1) := by decide +kernel
theorem dX5_count_129 : decode cX5_count 129 = .ok (.ireturn, 1) := by decide +kernel
theorem dX5_count_130 : decode cX5_count 130 = .ok (.aload_n 0, 1) := by decide +kernel
theorem dX5_count_131 : decode cX5_count 131 = .ok (.getfield 7, 3) := by decide +kernel
theorem dX5_count_134 : decode cX5_count 134 = .ok (.iconst 3, 1) := by decide +kernel
theorem dX5_count_135 : decode cX5_count 135 = .ok (.iaload, 1) := by decide +kernel
theorem dX5_count_136 : decode cX5_count 136 = .ok (.ireturn, 1) := by decide +kernel
theorem dX5_count_137 : decode cX5_count 137 = .ok (.aload_n 0, 1) := by decide +kernel
theorem dX5_count_138 : decode cX5_count 138 = .ok (.getfield 7, 3) := by decide +kernel
theorem dX5_count_141 : decode cX5_count 141 = .ok (.iload_n 1, 1) := by decide +kernel
theorem dX5_count_142 : decode cX5_count 142 = .ok (.bipush 10, 2) := by decide +kernel
theorem dX5_count_144 : decode cX5_count 144 = .ok (.isub, 1) := by decide +kernel
theorem dX5_count_145 : decode cX5_count 145 = .ok (.iaload, 1) := by decide +kernel
theorem dX5_count_146 : decode cX5_count 146 = .ok (.ireturn, 1) := by decide +kernel
theorem dX5_count_147 : decode cX5_count 147 = .ok (.aload_n 0, 1) := by decide +kernel
theorem dX5_count_148 : decode cX5_count 148 = .ok (.getfield 117, 3) := by decide +kernel
theorem dX5_count_151 : decode cX5_count 151 = .ok (.ireturn, 1) := by decide +kernel
theorem dX5_count_152 : decode cX5_count 152 = .ok (.aload_n 0, 1) := by decide +kernel
theorem dX5_count_153 : decode cX5_count 153 = .ok (.getfield 34, 3) := by decide +kernel
theorem dX5_count_156 : decode cX5_count 156 = .ok (.ireturn, 1) := by decide +kernel
theorem dX5_count_157 : decode cX5_count 157 = .ok (.bipush (-2), 2) := by decide +kernel
theorem dX5_count_159 : decode cX5_count 159 = .ok (.ireturn, 1) := by decide +kernel
theorem dX5_waiting_0 : decode cX5_waiting 0 = .ok (.iload_n 1, 1) := by decide +kernel
theorem dX5_waiting_1 : decode cX5_waiting 1 = .ok (.iconst 0, 1) := by decide +kernel
theorem dX5_waiting_2 : decode cX5_waiting 2 = .ok (.aload_n 0, 1) := by decide +kernel
theorem dX5_waiting_3 : decode cX5_waiting 3 = .ok (.getfield 7, 3) := by decide +kernel
theorem dX5_waiting_6 : decode cX5_waiting 6 = .ok (.bipush 7, 2) := by decide +kernel
theorem dX5_waiting_8 : decode cX5_waiting 8 = .ok (.iaload, 1) := by decide +kernel
theorem dX5_waiting_9 : decode cX5_waiting 9 = .ok (.iconst 1, 1) := by decide +kernel
theorem dX5_waiting_10 : decode cX5_waiting 10 = .ok (.isub, 1) := by decide +kernel
theorem dX5_waiting_11 : decode cX5_waiting 11 = .ok (.invokestatic 42, 3) := by decide +kernel
theorem dX5_waiting_14 : decode cX5_waiting 14 = .ok (.ifCond .eq 15, 3) := by decide +kernel
theorem dX5_waiting_17 : decode cX5_waiting 17 = .ok (.aload_n 0, 1) := by decide +kernel
theorem dX5_waiting_18 : decode cX5_waiting 18 = .ok (.getfield 7, 3) := by decide +kernel
theorem dX5_waiting_21 : decode cX5_waiting 21 = .ok (.bipush 8, 2) := by decide +kernel
theorem dX5_waiting_23 : decode cX5_waiting 23 = .ok (.iload_n 1, 1) := by decide +kernel
theorem dX5_waiting_24 : decode cX5_waiting 24 = .ok (.iadd, 1) := by decide +kernel
theorem dX5_waiting_25 : decode cX5_waiting 25 = .ok (.iaload, 1) := by decide +kernel
theorem dX5_waiting_26 : decode cX5_waiting 26 = .ok (.goto 4, 3) := by decide +kernel
theorem dX5_waiting_29 : decode cX5_waiting 29 = .ok (.iconst (-1), 1) := by decide +kernel
theorem dX5_waiting_30 : decode cX5_waiting 30 = .ok (.ireturn, 1) := by decide +kernel
theorem dX5_allValues_0 : decode cX5_allValues 0 = .ok (.iconst 0, 1) := by decide +kernel
theorem dX5_allValues_1 : decode cX5_allValues 1 = .ok (.istore_n 1, 1) := by decide +kernel
theorem dX5_allValues_2 : decode cX5_allValues 2 = .ok (.iconst 0, 1) := by decide +kernel
theorem dX5_allValues_3 : decode cX5_allValues 3 = .ok (.istore_n 2, 1) := by decide +kernel
theorem dX5_allValues_4 : decode cX5_allValues 4 = .ok (.iload_n 2, 1) := by decide +kernel
theorem dX5_allValues_5 : decode cX5_allValues 5 = .ok (.aload_n 0, 1) := by decide +kernel
theorem dX5_allValues_6 : decode cX5_allValues 6 = .ok (.getfield 7, 3) := by decide +kernel
theorem dX5_allValues_9 : decode cX5_allValues 9 = .ok (.iconst 2, 1) := by decide +kernel
theorem dX5_allValues_10 : decode cX5_allValues 10 = .ok (.iaload, 1) := by decide +kernel
theorem dX5_allValues_11 : decode cX5_allValues 11 = .ok (.if_icmp .ge 18, 3) := by decide +kernel
theorem dX5_allValues_14 : decode cX5_allValues 14 = .ok (.iload_n 1, 1) := by decide +kernel
theorem dX5_allValues_15 : decode cX5_allValues 15 = .ok (.aload_n 0, 1) := by decide +kernel
theorem dX5_allValues_16 : decode cX5_allValues 16 = .ok (.iload_n 2, 1) := by decide +kernel
theorem dX5_allValues_17 : decode cX5_allValues 17 = .ok (.iconst 4, 1) := by decide +kernel
theorem dX5_allValues_18 : decode cX5_allValues 18 = .ok (.invokevirtual 46, 3) := by decide +kernel
theorem dX5_allValues_21 : decode cX5_allValues 21 = .ok (.iadd, 1) := by decide +kernel
theorem dX5_allValues_22 : decode cX5_allValues 22 = .ok (.istore_n 1, 1) := by decide +kernel
theorem dX5_allValues_23 : decode cX5_allValues 23 = .ok (.iinc 2 1, 3) := by decide +kernel
theorem dX5_allValues_26 : decode cX5_allValues 26 = .ok (.goto (-22), 3) := by decide +kernel
theorem dX5_allValues_29 : decode cX5_allValues 29 = .ok (.iload_n 1, 1) := by decide +kernel
theorem dX5_allValues_30 : decode cX5_allValues 30 = .ok (.ireturn, 1) := by decide +kernel
theorem dX5_ifPassed_0 : decode cX5_ifPassed 0 = .ok (.iload_n 1, 1) := by decide +kernel
theorem dX5_ifPassed_1 : decode cX5_ifPassed 1 = .ok (.iconst 1, 1) := by decide +kernel
theorem dX5_ifPassed_2 : decode cX5_ifPassed 2 = .ok (.sipush 200, 3) := by decide +kernel
theorem dX5_ifPassed_5 : decode cX5_ifPassed 5 = .ok (.invokestatic 42, 3) := by decide +kernel
theorem dX5_ifPassed_8 : decode cX5_ifPassed 8 = .ok (.ifCond .eq 12, 3) := by decide +kernel
theorem dX5_ifPassed_11 : decode cX5_ifPassed 11 = .ok (.iload_n 2, 1) := by decide +kernel
theorem dX5_ifPassed_12 : decode cX5_ifPassed 12 = .ok (.iconst 0, 1) := by decide +kernel
theorem dX5_ifPassed_13 : decode cX5_ifPassed 13 = .ok (.iconst 3, 1) := by decide +kernel
theorem dX5_ifPassed_14 : decode cX5_ifPassed 14 = .ok (.invokestatic 42, 3) := by decide +kernel
theorem dX5_ifPassed_17 : decode cX5_ifPassed 17 = .ok (.ifCond .ne 6, 3) := by decide +kernel
theorem dX5_ifPassed_20 : decode cX5_ifPassed 20 = .ok (.bipush (-2), 2) := by decide +kernel
theorem dX5_ifPassed_22 : decode cX5_ifPassed 22 = .ok (.ireturn, 1) := by decide +kernel
theorem dX5_ifPassed_23 : decode cX5_ifPassed 23 = .ok (.aload_n 0, 1) := by decide +kernel
theorem dX5_ifPassed_24 : decode cX5_ifPassed 24 = .ok (.getfield 7, 3) := by decide +kernel
theorem dX5_ifPassed_27 : decode cX5_ifPassed 27 = .ok (.iconst 0, 1) := by decide +kernel
theorem dX5_ifPassed_28 : decode cX5_ifPassed 28 = .ok (.aload_n 0, 1) := by decide +kernel
theorem dX5_ifPassed_29 : decode cX5_ifPassed 29 = .ok (.getfield 13, 3) := by decide +kernel
theorem dX5_ifPassed_32 : decode cX5_ifPassed 32 = .ok (.iconst 0, 1) := by decide +kernel
theorem dX5_ifPassed_33 : decode cX5_ifPassed 33 = .ok (.invokestatic 38, 3) := by decide +kernel
theorem dX5_ifPassed_36 : decode cX5_ifPassed 36 = .ok (.aload_n 0, 1) := by decide +kernel
theorem dX5_ifPassed_37 : decode cX5_ifPassed 37 = .ok (.getfield 7, 3) := by decide +kernel
theorem dX5_ifPassed_40 : decode cX5_ifPassed 40 = .ok (.bipush 6, 2) := by decide +kernel
theorem dX5_ifPassed_42 : decode cX5_ifPassed 42 = .ok (.iconst 0, 1) := by decide +kernel
theorem dX5_ifPassed_43 : decode cX5_ifPassed 43 = .ok (.iastore, 1) := by decide +kernel
theorem dX5_ifPassed_44 : decode cX5_ifPassed 44 = .ok (.aload_n 0, 1) := by decide +kernel
theorem dX5_ifPassed_45 : decode cX5_ifPassed 45 = .ok (.iload_n 1, 1) := by decide +kernel
theorem dX5_ifPassed_46 : decode cX5_ifPassed 46 = .ok (.invokevirtual 153, 3) := by decide +kernel
theorem dX5_ifPassed_49 : decode cX5_ifPassed 49 = .ok (.istore_n 3, 1) := by decide +kernel
theorem dX5_ifPassed_50 : decode cX5_ifPassed 50 = .ok (.iload_n 2, 1) := by decide +kernel
theorem dX5_ifPassed_51 : decode cX5_ifPassed 51 = .ok (.ifCond .ne 7, 3) := by decide +kernel
theorem dX5_ifPassed_54 : decode cX5_ifPassed 54 = .ok (.iload_n 3, 1) := by decide +kernel
theorem dX5_ifPassed_55 : decode cX5_ifPassed 55 = .ok (.goto 35, 3) := by decide +kernel
theorem dX5_ifPassed_58 : decode cX5_ifPassed 58 = .ok (.iload_n 2, 1) := by decide +kernel
theorem dX5_ifPassed_59 : decode cX5_ifPassed 59 = .ok (.iconst 1, 1) := by decide +kernel
theorem dX5_ifPassed_60 : decode cX5_ifPassed 60 = .ok (.if_icmp .ne 11, 3) := by decide +kernel
theorem dX5_ifPassed_63 : decode cX5_ifPassed 63 = .ok (.aload_n 0, 1) := by decide +kernel
theorem dX5_ifPassed_64 : decode cX5_ifPassed 64 = .ok (.iconst 0, 1) := by decide +kernel
theorem dX5_ifPassed_65 : decode cX5_ifPassed 65 = .ok (.invokevirtual 65, 3) := by decide +kernel
theorem dX5_ifPassed_68 : decode cX5_ifPassed 68 = .ok (.goto 22, 3) := by decide +kernel
theorem dX5_ifPassed_71 : decode cX5_ifPassed 71 = .ok (.iload_n 2, 1) := by decide +kernel
theorem dX5_ifPassed_72 : decode cX5_ifPassed 72 = .ok (.iconst 2, 1) := by decide +kernel
theorem dX5_ifPassed_73 : decode cX5_ifPassed 73 = .ok (.if_icmp .ne 13, 3) := by decide +kernel
theorem dX5_ifPassed_76 : decode cX5_ifPassed 76 = .ok (.aload_n 0, 1) := by decide +kernel
theorem dX5_ifPassed_77 : decode cX5_ifPassed 77 = .ok (.getfield 7, 3) := by decide +kernel
theorem dX5_ifPassed_80 : decode cX5_ifPassed 80 = .ok (.bipush 6, 2) := by decide +kernel
theorem dX5_ifPassed_82 : decode cX5_ifPassed 82 = .ok (.iaload, 1) := by decide +kernel
theorem dX5_ifPassed_83 : decode cX5_ifPassed 83 = .ok (.goto 7, 3) := by decide +kernel
theorem dX5_ifPassed_86 : decode cX5_ifPassed 86 = .ok (.aload_n 0, 1) := by decide +kernel
theorem dX5_ifPassed_87 : decode cX5_ifPassed 87 = .ok (.invokevirtual 159, 3) := by decide +kernel
theorem dX5_ifPassed_90 : decode cX5_ifPassed 90 = .ok (.istore 4, 2) := by decide +kernel
theorem dX5_ifPassed_92 : decode cX5_ifPassed 92 = .ok (.aload_n 0, 1) := by decide +kernel
theorem dX5_ifPassed_93 : decode cX5_ifPassed 93 = .ok (.getfield 13, 3) := by decide +kernel
theorem dX5_ifPassed_96 : decode cX5_ifPassed 96 = .ok (.iconst 0, 1) := by decide +kernel
theorem dX5_ifPassed_97 : decode cX5_ifPassed 97 = .ok (.aload_n 0, 1) := by decide +kernel
theorem dX5_ifPassed_98 : decode cX5_ifPassed 98 = .ok (.getfield 7, 3) := by decide +kernel
theorem dX5_ifPassed_101 : decode cX5_ifPassed 101 = .ok (.iconst 0, 1) := by decide +kernel
theorem dX5_ifPassed_102 : decode cX5_ifPassed 102 = .ok (.invokestatic 38, 3) := by decide +kernel
theorem dX5_ifPassed_105 : decode cX5_ifPassed 105 = .ok (.iload 4, 2) := by decide +kernel
theorem dX5_ifPassed_107 : decode cX5_ifPassed 107 = .ok (.ireturn, 1) := by decide +kernel
theorem dX5_areAllAwake_0 : decode cX5_areAllAwake 0 = .ok (.aload_n 0, 1) := by decide +kernel
theorem dX5_areAllAwake_1 : decode cX5_areAllAwake 1 = .ok (.iconst 0, 1) := by decide +kernel
theorem dX5_areAllAwake_2 : decode cX5_areAllAwake 2 = .ok (.invokevirtual 65, 3) := by decide +kernel
theorem dX5_areAllAwake_5 : decode cX5_areAllAwake 5 = .ok (.iconst 1, 1) := by decide +kernel
theorem dX5_areAllAwake_6 : decode cX5_areAllAwake 6 = .ok (.aload_n 0, 1) := by decide +kernel
theorem dX5_areAllAwake_7 : decode cX5_areAllAwake 7 = .ok (.getfield 7, 3) := by decide +kernel
theorem dX5_areAllAwake_10 : decode cX5_areAllAwake 10 = .ok (.iconst 2, 1) := by decide +kernel
theorem dX5_areAllAwake_11 : decode cX5_areAllAwake 11 = .ok (.iaload, 1) := by decide +kernel
theorem dX5_areAllAwake_12 : decode cX5_areAllAwake 12 = .ok (.ishl, 1) := by decide +kernel
theorem dX5_areAllAwake_13 : decode cX5_areAllAwake 13 = .ok (.iconst 1, 1) := by decide +kernel
theorem dX5_areAllAwake_14 : decode cX5_areAllAwake 14 = .ok (.isub, 1) := by decide +kernel
theorem dX5_areAllAwake_15 : decode cX5_areAllAwake 15 = .ok (.if_icmp .ne 7, 3) := by decide +kernel
theorem dX5_areAllAwake_18 : decode cX5_areAllAwake 18 = .ok (.iconst 1, 1) := by decide +kernel
theorem dX5_areAllAwake_19 : decode cX5_areAllAwake 19 = .ok (.goto 4, 3) := by decide +kernel
theorem dX5_areAllAwake_22 : decode cX5_areAllAwake 22 = .ok (.iconst 0, 1) := by decide +kernel
theorem dX5_areAllAwake_23 : decode cX5_areAllAwake 23 = .ok (.ireturn, 1) := by decide +kernel
theorem dX5_allAwakeWith_0 : decode cX5_allAwakeWith 0 = .ok (.aload_n 0, 1) := by decide +kernel
theorem dX5_allAwakeWith_1 : decode cX5_allAwakeWith 1 = .ok (.getfield 7, 3) := by decide +kernel
theorem dX5_allAwakeWith_4 : decode cX5_allAwakeWith 4 = .ok (.iconst 0, 1) := by decide +kernel
theorem dX5_allAwakeWith_5 : decode cX5_allAwakeWith 5 = .ok (.aload_n 0, 1) := by decide +kernel
theorem dX5_allAwakeWith_6 : decode cX5_allAwakeWith 6 = .ok (.getfield 13, 3) := by decide +kernel
theorem dX5_allAwakeWith_9 : decode cX5_allAwakeWith 9 = .ok (.iconst 0, 1) := by decide +kernel
theorem dX5_allAwakeWith_10 : decode cX5_allAwakeWith 10 = .ok (.invokestatic 38, 3) := by decide +kernel
theorem dX5_allAwakeWith_13 : decode cX5_allAwakeWith 13 = .ok (.aload_n 0, 1) := by decide +kernel
theorem dX5_allAwakeWith_14 : decode cX5_allAwakeWith 14 = .ok (.getfield 7, 3) := by decide +kernel
theorem dX5_allAwakeWith_17 : decode cX5_allAwakeWith 17 = .ok (.iconst 0, 1) := by decide +kernel
theorem dX5_allAwakeWith_18 : decode cX5_allAwakeWith 18 = .ok (.iload_n 1, 1) := by decide +kernel
theorem dX5_allAwakeWith_19 : decode cX5_allAwakeWith 19 = .ok (.iastore, 1) := by decide +kernel
theorem dX5_allAwakeWith_20 : decode cX5_allAwakeWith 20 = .ok (.iconst 0, 1) := by decide +kernel
theorem dX5_allAwakeWith_21 : decode cX5_allAwakeWith 21 = .ok (.istore_n 2, 1) := by decide +kernel
theorem dX5_allAwakeWith_22 : decode cX5_allAwakeWith 22 = .ok (.iload_n 2, 1) := by decide +kernel
theorem dX5_allAwakeWith_23 : decode cX5_allAwakeWith 23 = .ok (.aload_n 0, 1) := by decide +kernel
theorem dX5_allAwakeWith_24 : decode cX5_allAwakeWith 24 = .ok (.getfield 7, 3) := by decide +kernel
theorem dX5_allAwakeWith_27 : decode cX5_allAwakeWith 27 = .ok (.iconst 2, 1) := by decide +kernel
theorem dX5_allAwakeWith_28 : decode cX5_allAwakeWith 28 = .ok (.iaload, 1) := by decide +kernel
theorem dX5_allAwakeWith_29 : decode cX5_allAwakeWith 29 = .ok (.if_icmp .ge 23, 3) := by decide +kernel
theorem dX5_allAwakeWith_32 : decode cX5_allAwakeWith 32 = .ok (.aload_n 0, 1) := by decide +kernel
theorem dX5_allAwakeWith_33 : decode cX5_allAwakeWith 33 = .ok (.iload_n 2, 1) := by decide +kernel
theorem dX5_allAwakeWith_34 : decode cX5_allAwakeWith 34 = .ok (.iconst 2, 1) := by decide +kernel
theorem dX5_allAwakeWith_35 : decode cX5_allAwakeWith 35 = .ok (.invokevirtual 50, 3) := by decide +kernel
theorem dX5_allAwakeWith_38 : decode cX5_allAwakeWith 38 = .ok (.ifCond .eq 8, 3) := by decide +kernel
theorem dX5_allAwakeWith_41 : decode cX5_allAwakeWith 41 = .ok (.aload_n 0, 1) := by decide +kernel
theorem dX5_allAwakeWith_42 : decode cX5_allAwakeWith 42 = .ok (.iload_n 2, 1) := by decide +kernel
theorem dX5_allAwakeWith_43 : decode cX5_allAwakeWith 43 = .ok (.invokevirtual 78, 3) := by decide +kernel
theorem dX5_allAwakeWith_46 : decode cX5_allAwakeWith 46 = .ok (.iinc 2 1, 3) := by decide +kernel
theorem dX5_allAwakeWith_49 : decode cX5_allAwakeWith 49 = .ok (.goto (-27), 3) := by decide +kernel
theorem dX5_allAwakeWith_52 : decode cX5_allAwakeWith 52 = .ok (.iconst 0, 1) := by decide +kernel
theorem dX5_allAwakeWith_53 : decode cX5_allAwakeWith 53 = .ok (.istore_n 2, 1) := by decide +kernel
theorem dX5_allAwakeWith_54 : decode cX5_allAwakeWith 54 = .ok (.aload_n 0, 1) := by decide +kernel
theorem dX5_allAwakeWith_55 : decode cX5_allAwakeWith 55 = .ok (.invokevirtual 162, 3) := by decide +kernel
theorem dX5_allAwakeWith_58 : decode cX5_allAwakeWith 58 = .ok (.ifCond .ne 20, 3) := by decide +kernel
theorem dX5_allAwakeWith_61 : decode cX5_allAwakeWith 61 = .ok (.iload_n 2, 1) := by decide +kernel
theorem dX5_allAwakeWith_62 : decode cX5_allAwakeWith 62 = .ok (.sipush 200, 3) := by decide +kernel
theorem dX5_allAwakeWith_65 : decode cX5_allAwakeWith 65 = .ok (.if_icmp .ge 13, 3) := by decide +kernel
theorem dX5_allAwakeWith_68 : decode cX5_allAwakeWith 68 = .ok (.aload_n 0, 1) := by decide +kernel
theorem dX5_allAwakeWith_69 : decode cX5_allAwakeWith 69 = .ok (.invokevirtual 101, 3) := by decide +kernel
theorem dX5_allAwakeWith_72 : decode cX5_allAwakeWith 72 = .ok (.iinc 2 1, 3) := by decide +kernel
theorem dX5_allAwakeWith_75 : decode cX5_allAwakeWith 75 = .ok (.goto (-21), 3) := by decide +kernel
theorem dX5_allAwakeWith_78 : decode cX5_allAwakeWith 78 = .ok (.aload_n 0, 1) := by decide +kernel
theorem dX5_allAwakeWith_79 : decode cX5_allAwakeWith 79 = .ok (.invokevirtual 162, 3) := by decide +kernel
theorem dX5_allAwakeWith_82 : decode cX5_allAwakeWith 82 = .ok (.ifCond .eq 7, 3) := by decide +kernel
theorem dX5_allAwakeWith_85 : decode cX5_allAwakeWith 85 = .ok (.iload_n 2, 1) := by decide +kernel
theorem dX5_allAwakeWith_86 : decode cX5_allAwakeWith 86 = .ok (.goto 5, 3) := by decide +kernel
theorem dX5_allAwakeWith_89 : decode cX5_allAwakeWith 89 = .ok (.bipush (-6), 2) := by decide +kernel
theorem dX5_allAwakeWith_91 : decode cX5_allAwakeWith 91 = .ok (.istore_n 3, 1) := by decide +kernel
theorem dX5_allAwakeWith_92 : decode cX5_allAwakeWith 92 = .ok (.aload_n 0, 1) := by decide +kernel
theorem dX5_allAwakeWith_93 : decode cX5_allAwakeWith 93 = .ok (.getfield 13, 3) := by decide +kernel
theorem dX5_allAwakeWith_96 : decode cX5_allAwakeWith 96 = .ok (.iconst 0, 1) := by decide +kernel
theorem dX5_allAwakeWith_97 : decode cX5_allAwakeWith 97 = .ok (.aload_n 0, 1) := by decide +kernel
theorem dX5_allAwakeWith_98 : decode cX5_allAwakeWith 98 = .ok (.getfield 7, 3) := by decide +kernel
theorem dX5_allAwakeWith_101 : decode cX5_allAwakeWith 101 = .ok (.iconst 0, 1) := by decide +kernel
theorem dX5_allAwakeWith_102 : decode cX5_allAwakeWith 102 = .ok (.invokestatic 38, 3) := by decide +kernel
theorem dX5_allAwakeWith_105 : decode cX5_allAwakeWith 105 = .ok (.iload_n 3, 1) := by decide +kernel
theorem dX5_allAwakeWith_106 : decode cX5_allAwakeWith 106 = .ok (.ireturn, 1) := by decide +kernel
theorem dX5_allAwake_0 : decode cX5_allAwake 0 = .ok (.aload_n 0, 1) := by decide +kernel
theorem dX5_allAwake_1 : decode cX5_allAwake 1 = .ok (.aload_n 0, 1) := by decide +kernel
theorem dX5_allAwake_2 : decode cX5_allAwake 2 = .ok (.getfield 7, 3) := by decide +kernel
theorem dX5_allAwake_5 : decode cX5_allAwake 5 = .ok (.iconst 0, 1) := by decide +kernel
theorem dX5_allAwake_6 : decode cX5_allAwake 6 = .ok (.iaload, 1) := by decide +kernel
theorem dX5_allAwake_7 : decode cX5_allAwake 7 = .ok (.invokevirtual 166, 3) := by decide +kernel
theorem dX5_allAwake_10 : decode cX5_allAwake 10 = .ok (.ireturn, 1) := by decide +kernel
theorem dX5_leastCurrent_0 : decode cX5_leastCurrent 0 = .ok (.iload_n 1, 1) := by decide +kernel
theorem dX5_leastCurrent_1 : decode cX5_leastCurrent 1 = .ok (.iconst 0, 1) := by decide +kernel
theorem dX5_leastCurrent_2 : decode cX5_leastCurrent 2 = .ok (.sipush 200, 3) := by decide +kernel
theorem dX5_leastCurrent_5 : decode cX5_leastCurrent 5 = .ok (.invokestatic 42, 3) := by decide +kernel
theorem dX5_leastCurrent_8 : decode cX5_leastCurrent 8 = .ok (.ifCond .ne 6, 3) := by decide +kernel
theorem dX5_leastCurrent_11 : decode cX5_leastCurrent 11 = .ok (.bipush (-2), 2) := by decide +kernel
theorem dX5_leastCurrent_13 : decode cX5_leastCurrent 13 = .ok (.ireturn, 1) := by decide +kernel
theorem dX5_leastCurrent_14 : decode cX5_leastCurrent 14 = .ok (.iconst 1, 1) := by decide +kernel
theorem dX5_leastCurrent_15 : decode cX5_leastCurrent 15 = .ok (.istore_n 2, 1) := by decide +kernel
theorem dX5_leastCurrent_16 : decode cX5_leastCurrent 16 = .ok (.iload_n 2, 1) := by decide +kernel
theorem dX5_leastCurrent_17 : decode cX5_leastCurrent 17 = .ok (.bipush 60, 2) := by decide +kernel
theorem dX5_leastCurrent_19 : decode cX5_leastCurrent 19 = .ok (.if_icmp .gt 28, 3) := by decide +kernel
theorem dX5_leastCurrent_22 : decode cX5_leastCurrent 22 = .ok (.aload_n 0, 1) := by decide +kernel
theorem dX5_leastCurrent_23 : decode cX5_leastCurrent 23 = .ok (.iload_n 2, 1) := by decide +kernel
theorem dX5_leastCurrent_24 : decode cX5_leastCurrent 24 = .ok (.invokevirtual 166, 3) := by decide +kernel
theorem dX5_leastCurrent_27 : decode cX5_leastCurrent 27 = .ok (.istore_n 3, 1) := by decide +kernel
theorem dX5_leastCurrent_28 : decode cX5_leastCurrent 28 = .ok (.iload_n 3, 1) := by decide +kernel
theorem dX5_leastCurrent_29 : decode cX5_leastCurrent 29 = .ok (.bipush (-6), 2) := by decide +kernel
theorem dX5_leastCurrent_31 : decode cX5_leastCurrent 31 = .ok (.if_icmp .eq 10, 3) := by decide +kernel
theorem dX5_leastCurrent_34 : decode cX5_leastCurrent 34 = .ok (.iload_n 3, 1) := by decide +kernel
theorem dX5_leastCurrent_35 : decode cX5_leastCurrent 35 = .ok (.iload_n 1, 1) := by decide +kernel
theorem dX5_leastCurrent_36 : decode cX5_leastCurrent 36 = .ok (.if_icmp .gt 5, 3) := by decide +kernel
theorem dX5_leastCurrent_39 : decode cX5_leastCurrent 39 = .ok (.iload_n 2, 1) := by decide +kernel
theorem dX5_leastCurrent_40 : decode cX5_leastCurrent 40 = .ok (.ireturn, 1) := by decide +kernel
theorem dX5_leastCurrent_41 : decode cX5_leastCurrent 41 = .ok (.iinc 2 1, 3) := by decide +kernel
theorem dX5_leastCurrent_44 : decode cX5_leastCurrent 44 = .ok (.goto (-28), 3) := by decide +kernel
theorem dX5_leastCurrent_47 : decode cX5_leastCurrent 47 = .ok (.bipush (-6), 2) := by decide +kernel
theorem dX5_leastCurrent_49 : decode cX5_leastCurrent 49 = .ok (.ireturn, 1) := by decide +kernel
theorem dX5_quiet_0 : decode cX5_quiet 0 = .ok (.iload_n 1, 1) := by decide +kernel
theorem dX5_quiet_1 : decode cX5_quiet 1 = .ok (.iconst 1, 1) := by decide +kernel
theorem dX5_quiet_2 : decode cX5_quiet 2 = .ok (.bipush 50, 2) := by decide +kernel
theorem dX5_quiet_4 : decode cX5_quiet 4 = .ok (.invokestatic 42, 3) := by decide +kernel
theorem dX5_quiet_7 : decode cX5_quiet 7 = .ok (.ifCond .ne 6, 3) := by decide +kernel
theorem dX5_quiet_10 : decode cX5_quiet 10 = .ok (.bipush (-2), 2) := by decide +kernel
theorem dX5_quiet_12 : decode cX5_quiet 12 = .ok (.ireturn, 1) := by decide +kernel
theorem dX5_quiet_13 : decode cX5_quiet 13 = .ok (.iconst 0, 1) := by decide +kernel
theorem dX5_quiet_14 : decode cX5_quiet 14 = .ok (.istore_n 2, 1) := by decide +kernel
theorem dX5_quiet_15 : decode cX5_quiet 15 = .ok (.iconst 0, 1) := by decide +kernel
theorem dX5_quiet_16 : decode cX5_quiet 16 = .ok (.istore_n 3, 1) := by decide +kernel
theorem dX5_quiet_17 : decode cX5_quiet 17 = .ok (.iload_n 3, 1) := by decide +kernel
theorem dX5_quiet_18 : decode cX5_quiet 18 = .ok (.aload_n 0, 1) := by decide +kernel
theorem dX5_quiet_19 : decode cX5_quiet 19 = .ok (.getfield 7, 3) := by decide +kernel
theorem dX5_quiet_22 : decode cX5_quiet 22 = .ok (.iconst 2, 1) := by decide +kernel
theorem dX5_quiet_23 : decode cX5_quiet 23 = .ok (.iaload, 1) := by decide +kernel
theorem dX5_quiet_24 : decode cX5_quiet 24 = .ok (.if_icmp .ge 70, 3) := by decide +kernel
theorem dX5_quiet_27 : decode cX5_quiet 27 = .ok (.aload_n 0, 1) := by decide +kernel
theorem dX5_quiet_28 : decode cX5_quiet 28 = .ok (.iload_n 3, 1) := by decide +kernel
theorem dX5_quiet_29 : decode cX5_quiet 29 = .ok (.iconst 0, 1) := by decide +kernel
theorem dX5_quiet_30 : decode cX5_quiet 30 = .ok (.invokevirtual 50, 3) := by decide +kernel
theorem dX5_quiet_33 : decode cX5_quiet 33 = .ok (.ifCond .eq 55, 3) := by decide +kernel
theorem dX5_quiet_36 : decode cX5_quiet 36 = .ok (.aload_n 0, 1) := by decide +kernel
theorem dX5_quiet_37 : decode cX5_quiet 37 = .ok (.getfield 7, 3) := by decide +kernel
theorem dX5_quiet_40 : decode cX5_quiet 40 = .ok (.iconst 0, 1) := by decide +kernel
theorem dX5_quiet_41 : decode cX5_quiet 41 = .ok (.aload_n 0, 1) := by decide +kernel
theorem dX5_quiet_42 : decode cX5_quiet 42 = .ok (.getfield 13, 3) := by decide +kernel
theorem dX5_quiet_45 : decode cX5_quiet 45 = .ok (.iconst 0, 1) := by decide +kernel
theorem dX5_quiet_46 : decode cX5_quiet 46 = .ok (.invokestatic 38, 3) := by decide +kernel
theorem dX5_quiet_49 : decode cX5_quiet 49 = .ok (.aload_n 0, 1) := by decide +kernel
theorem dX5_quiet_50 : decode cX5_quiet 50 = .ok (.iload_n 3, 1) := by decide +kernel
theorem dX5_quiet_51 : decode cX5_quiet 51 = .ok (.bipush 7, 2) := by decide +kernel
theorem dX5_quiet_53 : decode cX5_quiet 53 = .ok (.iconst 1, 1) := by decide +kernel
theorem dX5_quiet_54 : decode cX5_quiet 54 = .ok (.invokevirtual 68, 3) := by decide +kernel
theorem dX5_quiet_57 : decode cX5_quiet 57 = .ok (.iload_n 2, 1) := by decide +kernel
theorem dX5_quiet_58 : decode cX5_quiet 58 = .ok (.aload_n 0, 1) := by decide +kernel
theorem dX5_quiet_59 : decode cX5_quiet 59 = .ok (.iload_n 1, 1) := by decide +kernel
theorem dX5_quiet_60 : decode cX5_quiet 60 = .ok (.invokevirtual 153, 3) := by decide +kernel
theorem dX5_quiet_63 : decode cX5_quiet 63 = .ok (.ifCond .ne 9, 3) := by decide +kernel
theorem dX5_quiet_66 : decode cX5_quiet 66 = .ok (.iconst 1, 1) := by decide +kernel
theorem dX5_quiet_67 : decode cX5_quiet 67 = .ok (.iload_n 3, 1) := by decide +kernel
theorem dX5_quiet_68 : decode cX5_quiet 68 = .ok (.ishl, 1) := by decide +kernel
theorem dX5_quiet_69 : decode cX5_quiet 69 = .ok (.goto 4, 3) := by decide +kernel
theorem dX5_quiet_72 : decode cX5_quiet 72 = .ok (.iconst 0, 1) := by decide +kernel
theorem dX5_quiet_73 : decode cX5_quiet 73 = .ok (.ior, 1) := by decide +kernel
theorem dX5_quiet_74 : decode cX5_quiet 74 = .ok (.istore_n 2, 1) := by decide +kernel
theorem dX5_quiet_75 : decode cX5_quiet 75 = .ok (.aload_n 0, 1) := by decide +kernel
theorem dX5_quiet_76 : decode cX5_quiet 76 = .ok (.getfield 13, 3) := by decide +kernel
theorem dX5_quiet_79 : decode cX5_quiet 79 = .ok (.iconst 0, 1) := by decide +kernel
theorem dX5_quiet_80 : decode cX5_quiet 80 = .ok (.aload_n 0, 1) := by decide +kernel
theorem dX5_quiet_81 : decode cX5_quiet 81 = .ok (.getfield 7, 3) := by decide +kernel
theorem dX5_quiet_84 : decode cX5_quiet 84 = .ok (.iconst 0, 1) := by decide +kernel
theorem dX5_quiet_85 : decode cX5_quiet 85 = .ok (.invokestatic 38, 3) := by decide +kernel
theorem dX5_quiet_88 : decode cX5_quiet 88 = .ok (.iinc 3 1, 3) := by decide +kernel
theorem dX5_quiet_91 : decode cX5_quiet 91 = .ok (.goto (-74), 3) := by decide +kernel
theorem dX5_quiet_94 : decode cX5_quiet 94 = .ok (.iload_n 2, 1) := by decide +kernel
theorem dX5_quiet_95 : decode cX5_quiet 95 = .ok (.ireturn, 1) := by decide +kernel
theorem dX5_put_0 : decode cX5_put 0 = .ok (.iconst 0, 1) := by decide +kernel
theorem dX5_put_1 : decode cX5_put 1 = .ok (.istore_n 3, 1) := by decide +kernel
theorem dX5_put_2 : decode cX5_put 2 = .ok (.lload_n 1, 1) := by decide +kernel
theorem dX5_put_3 : decode cX5_put 3 = .ok (.lstore 4, 2) := by decide +kernel
theorem dX5_put_5 : decode cX5_put 5 = .ok (.iconst 1, 1) := by decide +kernel
theorem dX5_put_6 : decode cX5_put 6 = .ok (.istore 6, 2) := by decide +kernel
theorem dX5_put_8 : decode cX5_put 8 = .ok (.iload_n 3, 1) := by decide +kernel
theorem dX5_put_9 : decode cX5_put 9 = .ok (.bipush 8, 2) := by decide +kernel
theorem dX5_put_11 : decode cX5_put 11 = .ok (.if_icmp .ge 56, 3) := by decide +kernel
theorem dX5_put_14 : decode cX5_put 14 = .ok (.lload 4, 2) := by decide +kernel
theorem dX5_put_16 : decode cX5_put 16 = .ok (.ldc2_w 169, 3) := by decide +kernel
theorem dX5_put_19 : decode cX5_put 19 = .ok (.land, 1) := by decide +kernel
theorem dX5_put_20 : decode cX5_put 20 = .ok (.lconst 0, 1) := by decide +kernel
theorem dX5_put_21 : decode cX5_put 21 = .ok (.lcmp, 1) := by decide +kernel
theorem dX5_put_22 : decode cX5_put 22 = .ok (.ifCond .eq 45, 3) := by decide +kernel
theorem dX5_put_25 : decode cX5_put 25 = .ok (.iload 6, 2) := by decide +kernel
theorem dX5_put_27 : decode cX5_put 27 = .ok (.ifCond .eq 24, 3) := by decide +kernel
theorem dX5_put_30 : decode cX5_put 30 = .ok (.lload 4, 2) := by decide +kernel
theorem dX5_put_32 : decode cX5_put 32 = .ok (.ldc2_w 169, 3) := by decide +kernel
theorem dX5_put_35 : decode cX5_put 35 = .ok (.land, 1) := by decide +kernel
theorem dX5_put_36 : decode cX5_put 36 = .ok (.l2i, 1) := by decide +kernel
theorem dX5_put_37 : decode cX5_put 37 = .ok (.bipush 33, 2) := by decide +kernel
theorem dX5_put_39 : decode cX5_put 39 = .ok (.bipush 126, 2) := by decide +kernel
theorem dX5_put_41 : decode cX5_put 41 = .ok (.invokestatic 42, 3) := by decide +kernel
theorem dX5_put_44 : decode cX5_put 44 = .ok (.ifCond .eq 7, 3) := by decide +kernel
theorem dX5_put_47 : decode cX5_put 47 = .ok (.iconst 1, 1) := by decide +kernel
theorem dX5_put_48 : decode cX5_put 48 = .ok (.goto 4, 3) := by decide +kernel
theorem dX5_put_51 : decode cX5_put 51 = .ok (.iconst 0, 1) := by decide +kernel
theorem dX5_put_52 : decode cX5_put 52 = .ok (.istore 6, 2) := by decide +kernel
theorem dX5_put_54 : decode cX5_put 54 = .ok (.lload 4, 2) := by decide +kernel
theorem dX5_put_56 : decode cX5_put 56 = .ok (.bipush 8, 2) := by decide +kernel
theorem dX5_put_58 : decode cX5_put 58 = .ok (.lushr, 1) := by decide +kernel
theorem dX5_put_59 : decode cX5_put 59 = .ok (.lstore 4, 2) := by decide +kernel
theorem dX5_put_61 : decode cX5_put 61 = .ok (.iinc 3 1, 3) := by decide +kernel
theorem dX5_put_64 : decode cX5_put 64 = .ok (.goto (-56), 3) := by decide +kernel
theorem dX5_put_67 : decode cX5_put 67 = .ok (.iload_n 3, 1) := by decide +kernel
theorem dX5_put_68 : decode cX5_put 68 = .ok (.ifCond .eq 15, 3) := by decide +kernel
theorem dX5_put_71 : decode cX5_put 71 = .ok (.iload 6, 2) := by decide +kernel
theorem dX5_put_73 : decode cX5_put 73 = .ok (.ifCond .eq 10, 3) := by decide +kernel
theorem dX5_put_76 : decode cX5_put 76 = .ok (.lload 4, 2) := by decide +kernel
theorem dX5_put_78 : decode cX5_put 78 = .ok (.lconst 0, 1) := by decide +kernel
theorem dX5_put_79 : decode cX5_put 79 = .ok (.lcmp, 1) := by decide +kernel
theorem dX5_put_80 : decode cX5_put 80 = .ok (.ifCond .eq 6, 3) := by decide +kernel
theorem dX5_put_83 : decode cX5_put 83 = .ok (.bipush (-2), 2) := by decide +kernel
theorem dX5_put_85 : decode cX5_put 85 = .ok (.ireturn, 1) := by decide +kernel
theorem dX5_put_86 : decode cX5_put 86 = .ok (.aload_n 0, 1) := by decide +kernel
theorem dX5_put_87 : decode cX5_put 87 = .ok (.getfield 117, 3) := by decide +kernel
theorem dX5_put_90 : decode cX5_put 90 = .ok (.iload_n 3, 1) := by decide +kernel
theorem dX5_put_91 : decode cX5_put 91 = .ok (.iadd, 1) := by decide +kernel
theorem dX5_put_92 : decode cX5_put 92 = .ok (.bipush 64, 2) := by decide +kernel
theorem dX5_put_94 : decode cX5_put 94 = .ok (.if_icmp .le 6, 3) := by decide +kernel
theorem dX5_put_97 : decode cX5_put 97 = .ok (.bipush (-4), 2) := by decide +kernel
theorem dX5_put_99 : decode cX5_put 99 = .ok (.ireturn, 1) := by decide +kernel
theorem dX5_put_100 : decode cX5_put 100 = .ok (.iload_n 3, 1) := by decide +kernel
theorem dX5_put_101 : decode cX5_put 101 = .ok (.iconst 1, 1) := by decide +kernel
theorem dX5_put_102 : decode cX5_put 102 = .ok (.isub, 1) := by decide +kernel
theorem dX5_put_103 : decode cX5_put 103 = .ok (.istore 7, 2) := by decide +kernel
theorem dX5_put_105 : decode cX5_put 105 = .ok (.iload 7, 2) := by decide +kernel
theorem dX5_put_107 : decode cX5_put 107 = .ok (.ifCond .lt 40, 3) := by decide +kernel
theorem dX5_put_110 : decode cX5_put 110 = .ok (.aload_n 0, 1) := by decide +kernel
theorem dX5_put_111 : decode cX5_put 111 = .ok (.getfield 25, 3) := by decide +kernel
theorem dX5_put_114 : decode cX5_put 114 = .ok (.aload_n 0, 1) := by decide +kernel
theorem dX5_put_115 : decode cX5_put 115 = .ok (.getfield 117, 3) := by decide +kernel
theorem dX5_put_118 : decode cX5_put 118 = .ok (.lload_n 1, 1) := by decide +kernel
theorem dX5_put_119 : decode cX5_put 119 = .ok (.bipush 8, 2) := by decide +kernel
theorem dX5_put_121 : decode cX5_put 121 = .ok (.iload 7, 2) := by decide +kernel
theorem dX5_put_123 : decode cX5_put 123 = .ok (.imul, 1) := by decide +kernel
theorem dX5_put_124 : decode cX5_put 124 = .ok (.lushr, 1) := by decide +kernel
theorem dX5_put_125 : decode cX5_put 125 = .ok (.ldc2_w 169, 3) := by decide +kernel
theorem dX5_put_128 : decode cX5_put 128 = .ok (.land, 1) := by decide +kernel
theorem dX5_put_129 : decode cX5_put 129 = .ok (.l2i, 1) := by decide +kernel
theorem dX5_put_130 : decode cX5_put 130 = .ok (.iastore, 1) := by decide +kernel
theorem dX5_put_131 : decode cX5_put 131 = .ok (.aload_n 0, 1) := by decide +kernel
theorem dX5_put_132 : decode cX5_put 132 = .ok (.dup, 1) := by decide +kernel
theorem dX5_put_133 : decode cX5_put 133 = .ok (.getfield 117, 3) := by decide +kernel
theorem dX5_put_136 : decode cX5_put 136 = .ok (.iconst 1, 1) := by decide +kernel
theorem dX5_put_137 : decode cX5_put 137 = .ok (.iadd, 1) := by decide +kernel
theorem dX5_put_138 : decode cX5_put 138 = .ok (.putfield 117, 3) := by decide +kernel
theorem dX5_put_141 : decode cX5_put 141 = .ok (.iinc 7 (-1), 3) := by decide +kernel
theorem dX5_put_144 : decode cX5_put 144 = .ok (.goto (-39), 3) := by decide +kernel
theorem dX5_put_147 : decode cX5_put 147 = .ok (.aload_n 0, 1) := by decide +kernel
theorem dX5_put_148 : decode cX5_put 148 = .ok (.getfield 117, 3) := by decide +kernel
theorem dX5_put_151 : decode cX5_put 151 = .ok (.ireturn, 1) := by decide +kernel
theorem dX5_wipe_0 : decode cX5_wipe 0 = .ok (.aload_n 0, 1) := by decide +kernel
theorem dX5_wipe_1 : decode cX5_wipe 1 = .ok (.getfield 117, 3) := by decide +kernel
theorem dX5_wipe_4 : decode cX5_wipe 4 = .ok (.istore_n 1, 1) := by decide +kernel
theorem dX5_wipe_5 : decode cX5_wipe 5 = .ok (.aload_n 0, 1) := by decide +kernel
theorem dX5_wipe_6 : decode cX5_wipe 6 = .ok (.iconst 0, 1) := by decide +kernel
theorem dX5_wipe_7 : decode cX5_wipe 7 = .ok (.putfield 117, 3) := by decide +kernel
theorem dX5_wipe_10 : decode cX5_wipe 10 = .ok (.iload_n 1, 1) := by decide +kernel
theorem dX5_wipe_11 : decode cX5_wipe 11 = .ok (.ireturn, 1) := by decide +kernel
theorem dX5_character_0 : decode cX5_character 0 = .ok (.iload_n 1, 1) := by decide +kernel
theorem dX5_character_1 : decode cX5_character 1 = .ok (.aload_n 0, 1) := by decide +kernel
theorem dX5_character_2 : decode cX5_character 2 = .ok (.getfield 117, 3) := by decide +kernel
theorem dX5_character_5 : decode cX5_character 5 = .ok (.if_icmp .ge 12, 3) := by decide +kernel
theorem dX5_character_8 : decode cX5_character 8 = .ok (.aload_n 0, 1) := by decide +kernel
theorem dX5_character_9 : decode cX5_character 9 = .ok (.getfield 25, 3) := by decide +kernel
theorem dX5_character_12 : decode cX5_character 12 = .ok (.iload_n 1, 1) := by decide +kernel
theorem dX5_character_13 : decode cX5_character 13 = .ok (.iaload, 1) := by decide +kernel
theorem dX5_character_14 : decode cX5_character 14 = .ok (.goto 4, 3) := by decide +kernel
theorem dX5_character_17 : decode cX5_character 17 = .ok (.iconst (-1), 1) := by decide +kernel
theorem dX5_character_18 : decode cX5_character 18 = .ok (.ireturn, 1) := by decide +kernel
theorem dX5_isNext_0 : decode cX5_isNext 0 = .ok (.aload_n 0, 1) := by decide +kernel
theorem dX5_isNext_1 : decode cX5_isNext 1 = .ok (.aload_n 0, 1) := by decide +kernel
theorem dX5_isNext_2 : decode cX5_isNext 2 = .ok (.getfield 114, 3) := by decide +kernel
theorem dX5_isNext_5 : decode cX5_isNext 5 = .ok (.invokevirtual 171, 3) := by decide +kernel
theorem dX5_isNext_8 : decode cX5_isNext 8 = .ok (.iload_n 1, 1) := by decide +kernel
theorem dX5_isNext_9 : decode cX5_isNext 9 = .ok (.if_icmp .ne 7, 3) := by decide +kernel
theorem dX5_isNext_12 : decode cX5_isNext 12 = .ok (.iconst 1, 1) := by decide +kernel
theorem dX5_isNext_13 : decode cX5_isNext 13 = .ok (.goto 4, 3) := by decide +kernel
theorem dX5_isNext_16 : decode cX5_isNext 16 = .ok (.iconst 0, 1) := by decide +kernel
theorem dX5_isNext_17 : decode cX5_isNext 17 = .ok (.istore_n 2, 1) := by decide +kernel
theorem dX5_isNext_18 : decode cX5_isNext 18 = .ok (.aload_n 0, 1) := by decide +kernel
theorem dX5_isNext_19 : decode cX5_isNext 19 = .ok (.dup, 1) := by decide +kernel
theorem dX5_isNext_20 : decode cX5_isNext 20 = .ok (.getfield 114, 3) := by decide +kernel
theorem dX5_isNext_23 : decode cX5_isNext 23 = .ok (.iload_n 2, 1) := by decide +kernel
theorem dX5_isNext_24 : decode cX5_isNext 24 = .ok (.ifCond .eq 7, 3) := by decide +kernel
theorem dX5_isNext_27 : decode cX5_isNext 27 = .ok (.iconst 1, 1) := by decide +kernel
theorem dX5_isNext_28 : decode cX5_isNext 28 = .ok (.goto 4, 3) := by decide +kernel
theorem dX5_isNext_31 : decode cX5_isNext 31 = .ok (.iconst 0, 1) := by decide +kernel
theorem dX5_isNext_32 : decode cX5_isNext 32 = .ok (.iadd, 1) := by decide +kernel
theorem dX5_isNext_33 : decode cX5_isNext 33 = .ok (.putfield 114, 3) := by decide +kernel
theorem dX5_isNext_36 : decode cX5_isNext 36 = .ok (.iload_n 2, 1) := by decide +kernel
theorem dX5_isNext_37 : decode cX5_isNext 37 = .ok (.ireturn, 1) := by decide +kernel
theorem dX5_takeDigit_0 : decode cX5_takeDigit 0 = .ok (.aload_n 0, 1) := by decide +kernel
theorem dX5_takeDigit_1 : decode cX5_takeDigit 1 = .ok (.aload_n 0, 1) := by decide +kernel
theorem dX5_takeDigit_2 : decode cX5_takeDigit 2 = .ok (.getfield 114, 3) := by decide +kernel
theorem dX5_takeDigit_5 : decode cX5_takeDigit 5 = .ok (.invokevirtual 171, 3) := by decide +kernel
theorem dX5_takeDigit_8 : decode cX5_takeDigit 8 = .ok (.bipush 48, 2) := by decide +kernel
theorem dX5_takeDigit_10 : decode cX5_takeDigit 10 = .ok (.isub, 1) := by decide +kernel
theorem dX5_takeDigit_11 : decode cX5_takeDigit 11 = .ok (.istore_n 3, 1) := by decide +kernel
theorem dX5_takeDigit_12 : decode cX5_takeDigit 12 = .ok (.iload_n 3, 1) := by decide +kernel
theorem dX5_takeDigit_13 : decode cX5_takeDigit 13 = .ok (.iload_n 1, 1) := by decide +kernel
theorem dX5_takeDigit_14 : decode cX5_takeDigit 14 = .ok (.iload_n 2, 1) := by decide +kernel
theorem dX5_takeDigit_15 : decode cX5_takeDigit 15 = .ok (.invokestatic 42, 3) := by decide +kernel
theorem dX5_takeDigit_18 : decode cX5_takeDigit 18 = .ok (.ifCond .ne 5, 3) := by decide +kernel
theorem dX5_takeDigit_21 : decode cX5_takeDigit 21 = .ok (.iconst (-1), 1) := by decide +kernel
theorem dX5_takeDigit_22 : decode cX5_takeDigit 22 = .ok (.ireturn, 1) := by decide +kernel
theorem dX5_takeDigit_23 : decode cX5_takeDigit 23 = .ok (.aload_n 0, 1) := by decide +kernel
theorem dX5_takeDigit_24 : decode cX5_takeDigit 24 = .ok (.dup, 1) := by decide +kernel
theorem dX5_takeDigit_25 : decode cX5_takeDigit 25 = .ok (.getfield 114, 3) := by decide +kernel
theorem dX5_takeDigit_28 : decode cX5_takeDigit 28 = .ok (.iconst 1, 1) := by decide +kernel
theorem dX5_takeDigit_29 : decode cX5_takeDigit 29 = .ok (.iadd, 1) := by decide +kernel
theorem dX5_takeDigit_30 : decode cX5_takeDigit 30 = .ok (.putfield 114, 3) := by decide +kernel
theorem dX5_takeDigit_33 : decode cX5_takeDigit 33 = .ok (.iload_n 3, 1) := by decide +kernel
theorem dX5_takeDigit_34 : decode cX5_takeDigit 34 = .ok (.ireturn, 1) := by decide +kernel
theorem dX5_takeLoad_0 : decode cX5_takeLoad 0 = .ok (.aload_n 0, 1) := by decide +kernel
theorem dX5_takeLoad_1 : decode cX5_takeLoad 1 = .ok (.iconst 1, 1) := by decide +kernel
theorem dX5_takeLoad_2 : decode cX5_takeLoad 2 = .ok (.bipush 9, 2) := by decide +kernel
theorem dX5_takeLoad_4 : decode cX5_takeLoad 4 = .ok (.invokevirtual 174, 3) := by decide +kernel
theorem dX5_takeLoad_7 : decode cX5_takeLoad 7 = .ok (.istore_n 1, 1) := by decide +kernel
theorem dX5_takeLoad_8 : decode cX5_takeLoad 8 = .ok (.iload_n 1, 1) := by decide +kernel
theorem dX5_takeLoad_9 : decode cX5_takeLoad 9 = .ok (.iconst 1, 1) := by decide +kernel
theorem dX5_takeLoad_10 : decode cX5_takeLoad 10 = .ok (.if_icmp .eq 8, 3) := by decide +kernel
theorem dX5_takeLoad_13 : decode cX5_takeLoad 13 = .ok (.iload_n 1, 1) := by decide +kernel
theorem dX5_takeLoad_14 : decode cX5_takeLoad 14 = .ok (.iconst 2, 1) := by decide +kernel
theorem dX5_takeLoad_15 : decode cX5_takeLoad 15 = .ok (.if_icmp .ne 35, 3) := by decide +kernel
theorem dX5_takeLoad_18 : decode cX5_takeLoad 18 = .ok (.aload_n 0, 1) := by decide +kernel
theorem dX5_takeLoad_19 : decode cX5_takeLoad 19 = .ok (.iconst 0, 1) := by decide +kernel
theorem dX5_takeLoad_20 : decode cX5_takeLoad 20 = .ok (.iload_n 1, 1) := by decide +kernel
theorem dX5_takeLoad_21 : decode cX5_takeLoad 21 = .ok (.iconst 1, 1) := by decide +kernel
theorem dX5_takeLoad_22 : decode cX5_takeLoad 22 = .ok (.if_icmp .ne 8, 3) := by decide +kernel
theorem dX5_takeLoad_25 : decode cX5_takeLoad 25 = .ok (.bipush 9, 2) := by decide +kernel
theorem dX5_takeLoad_27 : decode cX5_takeLoad 27 = .ok (.goto 4, 3) := by decide +kernel
theorem dX5_takeLoad_30 : decode cX5_takeLoad 30 = .ok (.iconst 0, 1) := by decide +kernel
theorem dX5_takeLoad_31 : decode cX5_takeLoad 31 = .ok (.invokevirtual 174, 3) := by decide +kernel
theorem dX5_takeLoad_34 : decode cX5_takeLoad 34 = .ok (.istore_n 2, 1) := by decide +kernel
theorem dX5_takeLoad_35 : decode cX5_takeLoad 35 = .ok (.iload_n 2, 1) := by decide +kernel
theorem dX5_takeLoad_36 : decode cX5_takeLoad 36 = .ok (.ifCond .ge 7, 3) := by decide +kernel
theorem dX5_takeLoad_39 : decode cX5_takeLoad 39 = .ok (.iload_n 1, 1) := by decide +kernel
theorem dX5_takeLoad_40 : decode cX5_takeLoad 40 = .ok (.goto 9, 3) := by decide +kernel
theorem dX5_takeLoad_43 : decode cX5_takeLoad 43 = .ok (.bipush 10, 2) := by decide +kernel
theorem dX5_takeLoad_45 : decode cX5_takeLoad 45 = .ok (.iload_n 1, 1) := by decide +kernel
theorem dX5_takeLoad_46 : decode cX5_takeLoad 46 = .ok (.imul, 1) := by decide +kernel
theorem dX5_takeLoad_47 : decode cX5_takeLoad 47 = .ok (.iload_n 2, 1) := by decide +kernel
theorem dX5_takeLoad_48 : decode cX5_takeLoad 48 = .ok (.iadd, 1) := by decide +kernel
theorem dX5_takeLoad_49 : decode cX5_takeLoad 49 = .ok (.istore_n 1, 1) := by decide +kernel
theorem dX5_takeLoad_50 : decode cX5_takeLoad 50 = .ok (.iload_n 1, 1) := by decide +kernel
theorem dX5_takeLoad_51 : decode cX5_takeLoad 51 = .ok (.ireturn, 1) := by decide +kernel
theorem dX5_readsIsland_0 : decode cX5_readsIsland 0 = .ok (.aload_n 0, 1) := by decide +kernel
theorem dX5_readsIsland_1 : decode cX5_readsIsland 1 = .ok (.iconst 0, 1) := by decide +kernel
theorem dX5_readsIsland_2 : decode cX5_readsIsland 2 = .ok (.putfield 126, 3) := by decide +kernel
theorem dX5_readsIsland_5 : decode cX5_readsIsland 5 = .ok (.aload_n 0, 1) := by decide +kernel
theorem dX5_readsIsland_6 : decode cX5_readsIsland 6 = .ok (.aload_n 0, 1) := by decide +kernel
theorem dX5_readsIsland_7 : decode cX5_readsIsland 7 = .ok (.bipush 105, 2) := by decide +kernel
theorem dX5_readsIsland_9 : decode cX5_readsIsland 9 = .ok (.invokevirtual 123, 3) := by decide +kernel
theorem dX5_readsIsland_12 : decode cX5_readsIsland 12 = .ok (.ifCond .eq 7, 3) := by decide +kernel
theorem dX5_readsIsland_15 : decode cX5_readsIsland 15 = .ok (.iconst 1, 1) := by decide +kernel
theorem dX5_readsIsland_16 : decode cX5_readsIsland 16 = .ok (.goto 4, 3) := by decide +kernel
theorem dX5_readsIsland_19 : decode cX5_readsIsland 19 = .ok (.iconst 0, 1) := by decide +kernel
theorem dX5_readsIsland_20 : decode cX5_readsIsland 20 = .ok (.putfield 135, 3) := by decide +kernel
theorem dX5_readsIsland_23 : decode cX5_readsIsland 23 = .ok (.aload_n 0, 1) := by decide +kernel
theorem dX5_readsIsland_24 : decode cX5_readsIsland 24 = .ok (.aload_n 0, 1) := by decide +kernel
theorem dX5_readsIsland_25 : decode cX5_readsIsland 25 = .ok (.bipush 107, 2) := by decide +kernel
theorem dX5_readsIsland_27 : decode cX5_readsIsland 27 = .ok (.invokevirtual 123, 3) := by decide +kernel
theorem dX5_readsIsland_30 : decode cX5_readsIsland 30 = .ok (.ifCond .eq 7, 3) := by decide +kernel
theorem dX5_readsIsland_33 : decode cX5_readsIsland 33 = .ok (.iconst 1, 1) := by decide +kernel
theorem dX5_readsIsland_34 : decode cX5_readsIsland 34 = .ok (.goto 4, 3) := by decide +kernel
theorem dX5_readsIsland_37 : decode cX5_readsIsland 37 = .ok (.iconst 0, 1) := by decide +kernel
theorem dX5_readsIsland_38 : decode cX5_readsIsland 38 = .ok (.putfield 138, 3) := by decide +kernel
theorem dX5_readsIsland_41 : decode cX5_readsIsland 41 = .ok (.aload_n 0, 1) := by decide +kernel
theorem dX5_readsIsland_42 : decode cX5_readsIsland 42 = .ok (.aload_n 0, 1) := by decide +kernel
theorem dX5_readsIsland_43 : decode cX5_readsIsland 43 = .ok (.iconst 1, 1) := by decide +kernel
theorem dX5_readsIsland_44 : decode cX5_readsIsland 44 = .ok (.bipush 9, 2) := by decide +kernel
theorem dX5_readsIsland_46 : decode cX5_readsIsland 46 = .ok (.invokevirtual 174, 3) := by decide +kernel
theorem dX5_readsIsland_49 : decode cX5_readsIsland 49 = .ok (.putfield 141, 3) := by decide +kernel
theorem dX5_readsIsland_52 : decode cX5_readsIsland 52 = .ok (.aload_n 0, 1) := by decide +kernel
theorem dX5_readsIsland_53 : decode cX5_readsIsland 53 = .ok (.aload_n 0, 1) := by decide +kernel
theorem dX5_readsIsland_54 : decode cX5_readsIsland 54 = .ok (.getfield 141, 3) := by decide +kernel
theorem dX5_readsIsland_57 : decode cX5_readsIsland 57 = .ok (.ifCond .lt 19, 3) := by decide +kernel
theorem dX5_readsIsland_60 : decode cX5_readsIsland 60 = .ok (.aload_n 0, 1) := by decide +kernel
theorem dX5_readsIsland_61 : decode cX5_readsIsland 61 = .ok (.bipush 44, 2) := by decide +kernel
theorem dX5_readsIsland_63 : decode cX5_readsIsland 63 = .ok (.invokevirtual 123, 3) := by decide +kernel
theorem dX5_readsIsland_66 : decode cX5_readsIsland 66 = .ok (.ifCond .eq 10, 3) := by decide +kernel
theorem dX5_readsIsland_69 : decode cX5_readsIsland 69 = .ok (.aload_n 0, 1) := by decide +kernel
theorem dX5_readsIsland_70 : decode cX5_readsIsland 70 = .ok (.invokevirtual 177, 3) := by decide +kernel
theorem dX5_readsIsland_73 : decode cX5_readsIsland 73 = .ok (.goto 4, 3) := by decide +kernel
theorem dX5_readsIsland_76 : decode cX5_readsIsland 76 = .ok (.iconst (-1), 1) := by decide +kernel
theorem dX5_readsIsland_77 : decode cX5_readsIsland 77 = .ok (.putfield 144, 3) := by decide +kernel
theorem dX5_readsIsland_80 : decode cX5_readsIsland 80 = .ok (.aload_n 0, 1) := by decide +kernel
theorem dX5_readsIsland_81 : decode cX5_readsIsland 81 = .ok (.getfield 144, 3) := by decide +kernel
theorem dX5_readsIsland_84 : decode cX5_readsIsland 84 = .ok (.ifCond .lt 7, 3) := by decide +kernel
theorem dX5_readsIsland_87 : decode cX5_readsIsland 87 = .ok (.iconst 1, 1) := by decide +kernel
theorem dX5_readsIsland_88 : decode cX5_readsIsland 88 = .ok (.goto 4, 3) := by decide +kernel
theorem dX5_readsIsland_91 : decode cX5_readsIsland 91 = .ok (.iconst 0, 1) := by decide +kernel
theorem dX5_readsIsland_92 : decode cX5_readsIsland 92 = .ok (.istore_n 2, 1) := by decide +kernel
theorem dX5_readsIsland_93 : decode cX5_readsIsland 93 = .ok (.iload_n 2, 1) := by decide +kernel
theorem dX5_readsIsland_94 : decode cX5_readsIsland 94 = .ok (.ifCond .eq 82, 3) := by decide +kernel
theorem dX5_readsIsland_97 : decode cX5_readsIsland 97 = .ok (.aload_n 0, 1) := by decide +kernel
theorem dX5_readsIsland_98 : decode cX5_readsIsland 98 = .ok (.bipush 62, 2) := by decide +kernel
theorem dX5_readsIsland_100 : decode cX5_readsIsland 100 = .ok (.invokevirtual 123, 3) := by decide +kernel
theorem dX5_readsIsland_103 : decode cX5_readsIsland 103 = .ok (.ifCond .eq 73, 3) := by decide +kernel
theorem dX5_readsIsland_106 : decode cX5_readsIsland 106 = .ok (.aload_n 0, 1) := by decide +kernel
theorem dX5_readsIsland_107 : decode cX5_readsIsland 107 = .ok (.aload_n 0, 1) := by decide +kernel
theorem dX5_readsIsland_108 : decode cX5_readsIsland 108 = .ok (.getfield 114, 3) := by decide +kernel
theorem dX5_readsIsland_111 : decode cX5_readsIsland 111 = .ok (.invokevirtual 171, 3) := by decide +kernel
theorem dX5_readsIsland_114 : decode cX5_readsIsland 114 = .ok (.bipush 48, 2) := by decide +kernel
theorem dX5_readsIsland_116 : decode cX5_readsIsland 116 = .ok (.isub, 1) := by decide +kernel
theorem dX5_readsIsland_117 : decode cX5_readsIsland 117 = .ok (.iload_n 1, 1) := by decide +kernel
theorem dX5_readsIsland_118 : decode cX5_readsIsland 118 = .ok (.if_icmp .eq 7, 3) := by decide +kernel
theorem dX5_readsIsland_121 : decode cX5_readsIsland 121 = .ok (.iconst 1, 1) := by decide +kernel
theorem dX5_readsIsland_122 : decode cX5_readsIsland 122 = .ok (.goto 4, 3) := by decide +kernel
theorem dX5_readsIsland_125 : decode cX5_readsIsland 125 = .ok (.iconst 0, 1) := by decide +kernel
theorem dX5_readsIsland_126 : decode cX5_readsIsland 126 = .ok (.istore_n 2, 1) := by decide +kernel
theorem dX5_readsIsland_127 : decode cX5_readsIsland 127 = .ok (.iload_n 2, 1) := by decide +kernel
theorem dX5_readsIsland_128 : decode cX5_readsIsland 128 = .ok (.ifCond .eq 13, 3) := by decide +kernel
theorem dX5_readsIsland_131 : decode cX5_readsIsland 131 = .ok (.aload_n 0, 1) := by decide +kernel
theorem dX5_readsIsland_132 : decode cX5_readsIsland 132 = .ok (.iconst 0, 1) := by decide +kernel
theorem dX5_readsIsland_133 : decode cX5_readsIsland 133 = .ok (.bipush 7, 2) := by decide +kernel
theorem dX5_readsIsland_135 : decode cX5_readsIsland 135 = .ok (.invokevirtual 174, 3) := by decide +kernel
theorem dX5_readsIsland_138 : decode cX5_readsIsland 138 = .ok (.goto 4, 3) := by decide +kernel
theorem dX5_readsIsland_141 : decode cX5_readsIsland 141 = .ok (.iconst (-1), 1) := by decide +kernel
theorem dX5_readsIsland_142 : decode cX5_readsIsland 142 = .ok (.istore_n 3, 1) := by decide +kernel
theorem dX5_readsIsland_143 : decode cX5_readsIsland 143 = .ok (.iload_n 3, 1) := by decide +kernel
theorem dX5_readsIsland_144 : decode cX5_readsIsland 144 = .ok (.ifCond .lt 7, 3) := by decide +kernel
theorem dX5_readsIsland_147 : decode cX5_readsIsland 147 = .ok (.iconst 1, 1) := by decide +kernel
theorem dX5_readsIsland_148 : decode cX5_readsIsland 148 = .ok (.goto 4, 3) := by decide +kernel
theorem dX5_readsIsland_151 : decode cX5_readsIsland 151 = .ok (.iconst 0, 1) := by decide +kernel
theorem dX5_readsIsland_152 : decode cX5_readsIsland 152 = .ok (.istore_n 2, 1) := by decide +kernel
theorem dX5_readsIsland_153 : decode cX5_readsIsland 153 = .ok (.aload_n 0, 1) := by decide +kernel
theorem dX5_readsIsland_154 : decode cX5_readsIsland 154 = .ok (.dup, 1) := by decide +kernel
theorem dX5_readsIsland_155 : decode cX5_readsIsland 155 = .ok (.getfield 126, 3) := by decide +kernel
theorem dX5_readsIsland_158 : decode cX5_readsIsland 158 = .ok (.iload_n 2, 1) := by decide +kernel
theorem dX5_readsIsland_159 : decode cX5_readsIsland 159 = .ok (.ifCond .eq 9, 3) := by decide +kernel
theorem dX5_readsIsland_162 : decode cX5_readsIsland 162 = .ok (.iconst 1, 1) := by decide +kernel
theorem dX5_readsIsland_163 : decode cX5_readsIsland 163 = .ok (.iload_n 3, 1) := by decide +kernel
theorem dX5_readsIsland_164 : decode cX5_readsIsland 164 = .ok (.ishl, 1) := by decide +kernel
theorem dX5_readsIsland_165 : decode cX5_readsIsland 165 = .ok (.goto 4, 3) := by decide +kernel
theorem dX5_readsIsland_168 : decode cX5_readsIsland 168 = .ok (.iconst 0, 1) := by decide +kernel
theorem dX5_readsIsland_169 : decode cX5_readsIsland 169 = .ok (.ior, 1) := by decide +kernel
theorem dX5_readsIsland_170 : decode cX5_readsIsland 170 = .ok (.putfield 126, 3) := by decide +kernel
theorem dX5_readsIsland_173 : decode cX5_readsIsland 173 = .ok (.goto (-80), 3) := by decide +kernel
theorem dX5_readsIsland_176 : decode cX5_readsIsland 176 = .ok (.iload_n 2, 1) := by decide +kernel
theorem dX5_readsIsland_177 : decode cX5_readsIsland 177 = .ok (.ireturn, 1) := by decide +kernel
theorem dX5_findFault_0 : decode cX5_findFault 0 = .ok (.iconst 0, 1) := by decide +kernel
theorem dX5_findFault_1 : decode cX5_findFault 1 = .ok (.istore_n 1, 1) := by decide +kernel
theorem dX5_findFault_2 : decode cX5_findFault 2 = .ok (.aload_n 0, 1) := by decide +kernel
theorem dX5_findFault_3 : decode cX5_findFault 3 = .ok (.iconst 0, 1) := by decide +kernel
theorem dX5_findFault_4 : decode cX5_findFault 4 = .ok (.putfield 114, 3) := by decide +kernel
theorem dX5_findFault_7 : decode cX5_findFault 7 = .ok (.aload_n 0, 1) := by decide +kernel
theorem dX5_findFault_8 : decode cX5_findFault 8 = .ok (.iload_n 1, 1) := by decide +kernel
theorem dX5_findFault_9 : decode cX5_findFault 9 = .ok (.invokevirtual 120, 3) := by decide +kernel
theorem dX5_findFault_12 : decode cX5_findFault 12 = .ok (.ifCond .ne 8, 3) := by decide +kernel
theorem dX5_findFault_15 : decode cX5_findFault 15 = .ok (.aload_n 0, 1) := by decide +kernel
theorem dX5_findFault_16 : decode cX5_findFault 16 = .ok (.getfield 114, 3) := by decide +kernel
theorem dX5_findFault_19 : decode cX5_findFault 19 = .ok (.ireturn, 1) := by decide +kernel
theorem dX5_findFault_20 : decode cX5_findFault 20 = .ok (.iinc 1 1, 3) := by decide +kernel
theorem dX5_findFault_23 : decode cX5_findFault 23 = .ok (.aload_n 0, 1) := by decide +kernel
theorem dX5_findFault_24 : decode cX5_findFault 24 = .ok (.getfield 114, 3) := by decide +kernel
theorem dX5_findFault_27 : decode cX5_findFault 27 = .ok (.aload_n 0, 1) := by decide +kernel
theorem dX5_findFault_28 : decode cX5_findFault 28 = .ok (.getfield 117, 3) := by decide +kernel
theorem dX5_findFault_31 : decode cX5_findFault 31 = .ok (.if_icmp .ne 6, 3) := by decide +kernel
theorem dX5_findFault_34 : decode cX5_findFault 34 = .ok (.bipush (-6), 2) := by decide +kernel
theorem dX5_findFault_36 : decode cX5_findFault 36 = .ok (.ireturn, 1) := by decide +kernel
theorem dX5_findFault_37 : decode cX5_findFault 37 = .ok (.iload_n 1, 1) := by decide +kernel
theorem dX5_findFault_38 : decode cX5_findFault 38 = .ok (.bipush 8, 2) := by decide +kernel
theorem dX5_findFault_40 : decode cX5_findFault 40 = .ok (.if_icmp .eq 12, 3) := by decide +kernel
theorem dX5_findFault_43 : decode cX5_findFault 43 = .ok (.aload_n 0, 1) := by decide +kernel
theorem dX5_findFault_44 : decode cX5_findFault 44 = .ok (.bipush 59, 2) := by decide +kernel
theorem dX5_findFault_46 : decode cX5_findFault 46 = .ok (.invokevirtual 123, 3) := by decide +kernel
theorem dX5_findFault_49 : decode cX5_findFault 49 = .ok (.ifCond .ne (-42), 3) := by decide +kernel
theorem dX5_findFault_52 : decode cX5_findFault 52 = .ok (.aload_n 0, 1) := by decide +kernel
theorem dX5_findFault_53 : decode cX5_findFault 53 = .ok (.getfield 114, 3) := by decide +kernel
theorem dX5_findFault_56 : decode cX5_findFault 56 = .ok (.ireturn, 1) := by decide +kernel
theorem dX5_fault_0 : decode cX5_fault 0 = .ok (.aload_n 0, 1) := by decide +kernel
theorem dX5_fault_1 : decode cX5_fault 1 = .ok (.invokevirtual 129, 3) := by decide +kernel
theorem dX5_fault_4 : decode cX5_fault 4 = .ok (.ireturn, 1) := by decide +kernel
theorem dX5_undo_0 : decode cX5_undo 0 = .ok (.aload_n 0, 1) := by decide +kernel
theorem dX5_undo_1 : decode cX5_undo 1 = .ok (.getfield 34, 3) := by decide +kernel
theorem dX5_undo_4 : decode cX5_undo 4 = .ok (.ifCond .ne 6, 3) := by decide +kernel
theorem dX5_undo_7 : decode cX5_undo 7 = .ok (.bipush (-5), 2) := by decide +kernel
theorem dX5_undo_9 : decode cX5_undo 9 = .ok (.ireturn, 1) := by decide +kernel
theorem dX5_undo_10 : decode cX5_undo 10 = .ok (.aload_n 0, 1) := by decide +kernel
theorem dX5_undo_11 : decode cX5_undo 11 = .ok (.dup, 1) := by decide +kernel
theorem dX5_undo_12 : decode cX5_undo 12 = .ok (.getfield 34, 3) := by decide +kernel
theorem dX5_undo_15 : decode cX5_undo 15 = .ok (.iconst 1, 1) := by decide +kernel
theorem dX5_undo_16 : decode cX5_undo 16 = .ok (.isub, 1) := by decide +kernel
theorem dX5_undo_17 : decode cX5_undo 17 = .ok (.putfield 34, 3) := by decide +kernel
theorem dX5_undo_20 : decode cX5_undo 20 = .ok (.aload_n 0, 1) := by decide +kernel
theorem dX5_undo_21 : decode cX5_undo 21 = .ok (.getfield 16, 3) := by decide +kernel
theorem dX5_undo_24 : decode cX5_undo 24 = .ok (.aload_n 0, 1) := by decide +kernel
theorem dX5_undo_25 : decode cX5_undo 25 = .ok (.getfield 34, 3) := by decide +kernel
theorem dX5_undo_28 : decode cX5_undo 28 = .ok (.bipush 96, 2) := by decide +kernel
theorem dX5_undo_30 : decode cX5_undo 30 = .ok (.imul, 1) := by decide +kernel
theorem dX5_undo_31 : decode cX5_undo 31 = .ok (.aload_n 0, 1) := by decide +kernel
theorem dX5_undo_32 : decode cX5_undo 32 = .ok (.getfield 7, 3) := by decide +kernel
theorem dX5_undo_35 : decode cX5_undo 35 = .ok (.iconst 0, 1) := by decide +kernel
theorem dX5_undo_36 : decode cX5_undo 36 = .ok (.invokestatic 38, 3) := by decide +kernel
theorem dX5_undo_39 : decode cX5_undo 39 = .ok (.aload_n 0, 1) := by decide +kernel
theorem dX5_undo_40 : decode cX5_undo 40 = .ok (.getfield 34, 3) := by decide +kernel
theorem dX5_undo_43 : decode cX5_undo 43 = .ok (.ireturn, 1) := by decide +kernel
theorem dX5_save_0 : decode cX5_save 0 = .ok (.iload_n 1, 1) := by decide +kernel
theorem dX5_save_1 : decode cX5_save 1 = .ok (.iconst 0, 1) := by decide +kernel
theorem dX5_save_2 : decode cX5_save 2 = .ok (.iconst 1, 1) := by decide +kernel
theorem dX5_save_3 : decode cX5_save 3 = .ok (.invokestatic 42, 3) := by decide +kernel
theorem dX5_save_6 : decode cX5_save 6 = .ok (.ifCond .ne 6, 3) := by decide +kernel
theorem dX5_save_9 : decode cX5_save 9 = .ok (.bipush (-2), 2) := by decide +kernel
theorem dX5_save_11 : decode cX5_save 11 = .ok (.ireturn, 1) := by decide +kernel
theorem dX5_save_12 : decode cX5_save 12 = .ok (.aload_n 0, 1) := by decide +kernel
theorem dX5_save_13 : decode cX5_save 13 = .ok (.getfield 7, 3) := by decide +kernel
theorem dX5_save_16 : decode cX5_save 16 = .ok (.iconst 0, 1) := by decide +kernel
theorem dX5_save_17 : decode cX5_save 17 = .ok (.aload_n 0, 1) := by decide +kernel
theorem dX5_save_18 : decode cX5_save 18 = .ok (.getfield 19, 3) := by decide +kernel
theorem dX5_save_21 : decode cX5_save 21 = .ok (.bipush 96, 2) := by decide +kernel
theorem dX5_save_23 : decode cX5_save 23 = .ok (.iload_n 1, 1) := by decide +kernel
theorem dX5_save_24 : decode cX5_save 24 = .ok (.imul, 1) := by decide +kernel
theorem dX5_save_25 : decode cX5_save 25 = .ok (.invokestatic 38, 3) := by decide +kernel
theorem dX5_save_28 : decode cX5_save 28 = .ok (.aload_n 0, 1) := by decide +kernel
theorem dX5_save_29 : decode cX5_save 29 = .ok (.getfield 22, 3) := by decide +kernel
theorem dX5_save_32 : decode cX5_save 32 = .ok (.iload_n 1, 1) := by decide +kernel
theorem dX5_save_33 : decode cX5_save 33 = .ok (.iconst 1, 1) := by decide +kernel
theorem dX5_save_34 : decode cX5_save 34 = .ok (.iastore, 1) := by decide +kernel
theorem dX5_save_35 : decode cX5_save 35 = .ok (.aload_n 0, 1) := by decide +kernel
theorem dX5_save_36 : decode cX5_save 36 = .ok (.getfield 7, 3) := by decide +kernel
theorem dX5_save_39 : decode cX5_save 39 = .ok (.iconst 2, 1) := by decide +kernel
theorem dX5_save_40 : decode cX5_save 40 = .ok (.iaload, 1) := by decide +kernel
theorem dX5_save_41 : decode cX5_save 41 = .ok (.ireturn, 1) := by decide +kernel
theorem dX5_restore_0 : decode cX5_restore 0 = .ok (.iload_n 1, 1) := by decide +kernel
theorem dX5_restore_1 : decode cX5_restore 1 = .ok (.iconst 0, 1) := by decide +kernel
theorem dX5_restore_2 : decode cX5_restore 2 = .ok (.iconst 1, 1) := by decide +kernel
theorem dX5_restore_3 : decode cX5_restore 3 = .ok (.invokestatic 42, 3) := by decide +kernel
theorem dX5_restore_6 : decode cX5_restore 6 = .ok (.ifCond .ne 6, 3) := by decide +kernel
theorem dX5_restore_9 : decode cX5_restore 9 = .ok (.bipush (-2), 2) := by decide +kernel
theorem dX5_restore_11 : decode cX5_restore 11 = .ok (.ireturn, 1) := by decide +kernel
theorem dX5_restore_12 : decode cX5_restore 12 = .ok (.aload_n 0, 1) := by decide +kernel
theorem dX5_restore_13 : decode cX5_restore 13 = .ok (.getfield 22, 3) := by decide +kernel
theorem dX5_restore_16 : decode cX5_restore 16 = .ok (.iload_n 1, 1) := by decide +kernel
theorem dX5_restore_17 : decode cX5_restore 17 = .ok (.iaload, 1) := by decide +kernel
theorem dX5_restore_18 : decode cX5_restore 18 = .ok (.ifCond .ne 6, 3) := by decide +kernel
theorem dX5_restore_21 : decode cX5_restore 21 = .ok (.bipush (-5), 2) := by decide +kernel
theorem dX5_restore_23 : decode cX5_restore 23 = .ok (.ireturn, 1) := by decide +kernel
theorem dX5_restore_24 : decode cX5_restore 24 = .ok (.aload_n 0, 1) := by decide +kernel
theorem dX5_restore_25 : decode cX5_restore 25 = .ok (.invokevirtual 107, 3) := by decide +kernel
theorem dX5_restore_28 : decode cX5_restore 28 = .ok (.aload_n 0, 1) := by decide +kernel
theorem dX5_restore_29 : decode cX5_restore 29 = .ok (.getfield 19, 3) := by decide +kernel
theorem dX5_restore_32 : decode cX5_restore 32 = .ok (.bipush 96, 2) := by decide +kernel
theorem dX5_restore_34 : decode cX5_restore 34 = .ok (.iload_n 1, 1) := by decide +kernel
theorem dX5_restore_35 : decode cX5_restore 35 = .ok (.imul, 1) := by decide +kernel
theorem dX5_restore_36 : decode cX5_restore 36 = .ok (.aload_n 0, 1) := by decide +kernel
theorem dX5_restore_37 : decode cX5_restore 37 = .ok (.getfield 7, 3) := by decide +kernel
theorem dX5_restore_40 : decode cX5_restore 40 = .ok (.iconst 0, 1) := by decide +kernel
theorem dX5_restore_41 : decode cX5_restore 41 = .ok (.invokestatic 38, 3) := by decide +kernel
theorem dX5_restore_44 : decode cX5_restore 44 = .ok (.aload_n 0, 1) := by decide +kernel
theorem dX5_restore_45 : decode cX5_restore 45 = .ok (.getfield 7, 3) := by decide +kernel
theorem dX5_restore_48 : decode cX5_restore 48 = .ok (.iconst 2, 1) := by decide +kernel
theorem dX5_restore_49 : decode cX5_restore 49 = .ok (.iaload, 1) := by decide +kernel
theorem dX5_restore_50 : decode cX5_restore 50 = .ok (.ireturn, 1) := by decide +kernel
end
section
theorem dJ6_bitCount_0f7a4_0 : decode cJ6_bitCount_0f7a4 0 = .ok (.iload_n 0, 1) := by decide +kernel
theorem dJ6_bitCount_0f7a4_1 : decode cJ6_bitCount_0f7a4 1 = .ok (.iload_n 0, 1) := by decide +kernel
theorem dJ6_bitCount_0f7a4_2 : decode cJ6_bitCount_0f7a4 2 = .ok (.iconst 1, 1) := by decide +kernel
theorem dJ6_bitCount_0f7a4_3 : decode cJ6_bitCount_0f7a4 3 = .ok (.iushr, 1) := by decide +kernel
theorem dJ6_bitCount_0f7a4_4 : decode cJ6_bitCount_0f7a4 4 = .ok (.ldc_w 265, 3) := by decide +kernel
theorem dJ6_bitCount_0f7a4_7 : decode cJ6_bitCount_0f7a4 7 = .ok (.iand, 1) := by decide +kernel
theorem dJ6_bitCount_0f7a4_8 : decode cJ6_bitCount_0f7a4 8 = .ok (.isub, 1) := by decide +kernel
theorem dJ6_bitCount_0f7a4_9 : decode cJ6_bitCount_0f7a4 9 = .ok (.istore_n 0, 1) := by decide +kernel
theorem dJ6_bitCount_0f7a4_10 : decode cJ6_bitCount_0f7a4 10 = .ok (.iload_n 0, 1) := by decide +kernel
theorem dJ6_bitCount_0f7a4_11 : decode cJ6_bitCount_0f7a4 11 = .ok (.ldc_w 266, 3) := by decide +kernel
theorem dJ6_bitCount_0f7a4_14 : decode cJ6_bitCount_0f7a4 14 = .ok (.iand, 1) := by decide +kernel
theorem dJ6_bitCount_0f7a4_15 : decode cJ6_bitCount_0f7a4 15 = .ok (.iload_n 0, 1) := by decide +kernel
theorem dJ6_bitCount_0f7a4_16 : decode cJ6_bitCount_0f7a4 16 = .ok (.iconst 2, 1) := by decide +kernel
theorem dJ6_bitCount_0f7a4_17 : decode cJ6_bitCount_0f7a4 17 = .ok (.iushr, 1) := by decide +kernel
theorem dJ6_bitCount_0f7a4_18 : decode cJ6_bitCount_0f7a4 18 = .ok (.ldc_w 266, 3) := by decide +kernel
theorem dJ6_bitCount_0f7a4_21 : decode cJ6_bitCount_0f7a4 21 = .ok (.iand, 1) := by decide +kernel
theorem dJ6_bitCount_0f7a4_22 : decode cJ6_bitCount_0f7a4 22 = .ok (.iadd, 1) := by decide +kernel
theorem dJ6_bitCount_0f7a4_23 : decode cJ6_bitCount_0f7a4 23 = .ok (.istore_n 0, 1) := by decide +kernel
theorem dJ6_bitCount_0f7a4_24 : decode cJ6_bitCount_0f7a4 24 = .ok (.iload_n 0, 1) := by decide +kernel
theorem dJ6_bitCount_0f7a4_25 : decode cJ6_bitCount_0f7a4 25 = .ok (.iload_n 0, 1) := by decide +kernel
theorem dJ6_bitCount_0f7a4_26 : decode cJ6_bitCount_0f7a4 26 = .ok (.iconst 4, 1) := by decide +kernel
theorem dJ6_bitCount_0f7a4_27 : decode cJ6_bitCount_0f7a4 27 = .ok (.iushr, 1) := by decide +kernel
theorem dJ6_bitCount_0f7a4_28 : decode cJ6_bitCount_0f7a4 28 = .ok (.iadd, 1) := by decide +kernel
theorem dJ6_bitCount_0f7a4_29 : decode cJ6_bitCount_0f7a4 29 = .ok (.ldc_w 267, 3) := by decide +kernel
theorem dJ6_bitCount_0f7a4_32 : decode cJ6_bitCount_0f7a4 32 = .ok (.iand, 1) := by decide +kernel
theorem dJ6_bitCount_0f7a4_33 : decode cJ6_bitCount_0f7a4 33 = .ok (.istore_n 0, 1) := by decide +kernel
theorem dJ6_bitCount_0f7a4_34 : decode cJ6_bitCount_0f7a4 34 = .ok (.iload_n 0, 1) := by decide +kernel
theorem dJ6_bitCount_0f7a4_35 : decode cJ6_bitCount_0f7a4 35 = .ok (.iload_n 0, 1) := by decide +kernel
theorem dJ6_bitCount_0f7a4_36 : decode cJ6_bitCount_0f7a4 36 = .ok (.bipush 8, 2) := by decide +kernel
theorem dJ6_bitCount_0f7a4_38 : decode cJ6_bitCount_0f7a4 38 = .ok (.iushr, 1) := by decide +kernel
theorem dJ6_bitCount_0f7a4_39 : decode cJ6_bitCount_0f7a4 39 = .ok (.iadd, 1) := by decide +kernel
theorem dJ6_bitCount_0f7a4_40 : decode cJ6_bitCount_0f7a4 40 = .ok (.istore_n 0, 1) := by decide +kernel
theorem dJ6_bitCount_0f7a4_41 : decode cJ6_bitCount_0f7a4 41 = .ok (.iload_n 0, 1) := by decide +kernel
theorem dJ6_bitCount_0f7a4_42 : decode cJ6_bitCount_0f7a4 42 = .ok (.iload_n 0, 1) := by decide +kernel
theorem dJ6_bitCount_0f7a4_43 : decode cJ6_bitCount_0f7a4 43 = .ok (.bipush 16, 2) := by decide +kernel
theorem dJ6_bitCount_0f7a4_45 : decode cJ6_bitCount_0f7a4 45 = .ok (.iushr, 1) := by decide +kernel
theorem dJ6_bitCount_0f7a4_46 : decode cJ6_bitCount_0f7a4 46 = .ok (.iadd, 1) := by decide +kernel
theorem dJ6_bitCount_0f7a4_47 : decode cJ6_bitCount_0f7a4 47 = .ok (.istore_n 0, 1) := by decide +kernel
theorem dJ6_bitCount_0f7a4_48 : decode cJ6_bitCount_0f7a4 48 = .ok (.iload_n 0, 1) := by decide +kernel
theorem dJ6_bitCount_0f7a4_49 : decode cJ6_bitCount_0f7a4 49 = .ok (.bipush 63, 2) := by decide +kernel
theorem dJ6_bitCount_0f7a4_51 : decode cJ6_bitCount_0f7a4 51 = .ok (.iand, 1) := by decide +kernel
theorem dJ6_bitCount_0f7a4_52 : decode cJ6_bitCount_0f7a4 52 = .ok (.ireturn, 1) := by decide +kernel
theorem dJ9_max_7cf53_0 : decode cJ9_max_7cf53 0 = .ok (.iload_n 0, 1) := by decide +kernel
theorem dJ9_max_7cf53_1 : decode cJ9_max_7cf53 1 = .ok (.iload_n 1, 1) := by decide +kernel
theorem dJ9_max_7cf53_2 : decode cJ9_max_7cf53 2 = .ok (.if_icmp .lt 7, 3) := by decide +kernel
theorem dJ9_max_7cf53_5 : decode cJ9_max_7cf53 5 = .ok (.iload_n 0, 1) := by decide +kernel
theorem dJ9_max_7cf53_6 : decode cJ9_max_7cf53 6 = .ok (.goto 4, 3) := by decide +kernel
theorem dJ9_max_7cf53_9 : decode cJ9_max_7cf53 9 = .ok (.iload_n 1, 1) := by decide +kernel
theorem dJ9_max_7cf53_10 : decode cJ9_max_7cf53 10 = .ok (.ireturn, 1) := by decide +kernel
theorem dL_law_0 : decode cL_law 0 = .ok (.new 7, 3) := by decide +kernel
theorem dL_law_3 : decode cL_law 3 = .ok (.dup, 1) := by decide +kernel
theorem dL_law_4 : decode cL_law 4 = .ok (.invokespecial 9, 3) := by decide +kernel
theorem dL_law_7 : decode cL_law 7 = .ok (.astore_n 1, 1) := by decide +kernel
theorem dL_law_8 : decode cL_law 8 = .ok (.new 10, 3) := by decide +kernel
theorem dL_law_11 : decode cL_law 11 = .ok (.dup, 1) := by decide +kernel
theorem dL_law_12 : decode cL_law 12 = .ok (.invokespecial 12, 3) := by decide +kernel
theorem dL_law_15 : decode cL_law 15 = .ok (.astore_n 2, 1) := by decide +kernel
theorem dL_law_16 : decode cL_law 16 = .ok (.iconst 0, 1) := by decide +kernel
theorem dL_law_17 : decode cL_law 17 = .ok (.istore_n 3, 1) := by decide +kernel
theorem dL_law_18 : decode cL_law 18 = .ok (.iload_n 3, 1) := by decide +kernel
theorem dL_law_19 : decode cL_law 19 = .ok (.aload_n 0, 1) := by decide +kernel
theorem dL_law_20 : decode cL_law 20 = .ok (.arraylength, 1) := by decide +kernel
theorem dL_law_21 : decode cL_law 21 = .ok (.iconst 5, 1) := by decide +kernel
theorem dL_law_22 : decode cL_law 22 = .ok (.isub, 1) := by decide +kernel
theorem dL_law_23 : decode cL_law 23 = .ok (.if_icmp .gt 716, 3) := by decide +kernel
theorem dL_law_26 : decode cL_law 26 = .ok (.aload_n 0, 1) := by decide +kernel
theorem dL_law_27 : decode cL_law 27 = .ok (.iload_n 3, 1) := by decide +kernel
theorem dL_law_28 : decode cL_law 28 = .ok (.iaload, 1) := by decide +kernel
theorem dL_law_29 : decode cL_law 29 = .ok (.bipush 31, 2) := by decide +kernel
theorem dL_law_31 : decode cL_law 31 = .ok (.iand, 1) := by decide +kernel
theorem dL_law_32 : decode cL_law 32 = .ok (.tableswitch 701 0 20 #[100, 133, 218, 231, 290, 323, 346, 369, 392, 425, 448, 471, 504, 517, 540, 563, 616, 629, 642, 655, 678], 100) := by decide +kernel
theorem dL_law_132 : decode cL_law 132 = .ok (.aload_n 1, 1) := by decide +kernel
theorem dL_law_133 : decode cL_law 133 = .ok (.aload_n 0, 1) := by decide +kernel
theorem dL_law_134 : decode cL_law 134 = .ok (.iload_n 3, 1) := by decide +kernel
theorem dL_law_135 : decode cL_law 135 = .ok (.iconst 1, 1) := by decide +kernel
theorem dL_law_136 : decode cL_law 136 = .ok (.iadd, 1) := by decide +kernel
theorem dL_law_137 : decode cL_law 137 = .ok (.iaload, 1) := by decide +kernel
theorem dL_law_138 : decode cL_law 138 = .ok (.aload_n 0, 1) := by decide +kernel
theorem dL_law_139 : decode cL_law 139 = .ok (.iload_n 3, 1) := by decide +kernel
theorem dL_law_140 : decode cL_law 140 = .ok (.iconst 2, 1) := by decide +kernel
theorem dL_law_141 : decode cL_law 141 = .ok (.iadd, 1) := by decide +kernel
theorem dL_law_142 : decode cL_law 142 = .ok (.iaload, 1) := by decide +kernel
theorem dL_law_143 : decode cL_law 143 = .ok (.invokevirtual 13, 3) := by decide +kernel
theorem dL_law_146 : decode cL_law 146 = .ok (.aload_n 2, 1) := by decide +kernel
theorem dL_law_147 : decode cL_law 147 = .ok (.aload_n 0, 1) := by decide +kernel
theorem dL_law_148 : decode cL_law 148 = .ok (.iload_n 3, 1) := by decide +kernel
theorem dL_law_149 : decode cL_law 149 = .ok (.iconst 1, 1) := by decide +kernel
theorem dL_law_150 : decode cL_law 150 = .ok (.iadd, 1) := by decide +kernel
theorem dL_law_151 : decode cL_law 151 = .ok (.iaload, 1) := by decide +kernel
theorem dL_law_152 : decode cL_law 152 = .ok (.aload_n 0, 1) := by decide +kernel
theorem dL_law_153 : decode cL_law 153 = .ok (.iload_n 3, 1) := by decide +kernel
theorem dL_law_154 : decode cL_law 154 = .ok (.iconst 2, 1) := by decide +kernel
theorem dL_law_155 : decode cL_law 155 = .ok (.iadd, 1) := by decide +kernel
theorem dL_law_156 : decode cL_law 156 = .ok (.iaload, 1) := by decide +kernel
theorem dL_law_157 : decode cL_law 157 = .ok (.invokevirtual 17, 3) := by decide +kernel
theorem dL_law_160 : decode cL_law 160 = .ok (.if_icmp .eq 573, 3) := by decide +kernel
theorem dL_law_163 : decode cL_law 163 = .ok (.iconst 0, 1) := by decide +kernel
theorem dL_law_164 : decode cL_law 164 = .ok (.ireturn, 1) := by decide +kernel
theorem dL_law_165 : decode cL_law 165 = .ok (.aload_n 1, 1) := by decide +kernel
theorem dL_law_166 : decode cL_law 166 = .ok (.aload_n 0, 1) := by decide +kernel
theorem dL_law_167 : decode cL_law 167 = .ok (.iload_n 3, 1) := by decide +kernel
theorem dL_law_168 : decode cL_law 168 = .ok (.iconst 1, 1) := by decide +kernel
theorem dL_law_169 : decode cL_law 169 = .ok (.iadd, 1) := by decide +kernel
theorem dL_law_170 : decode cL_law 170 = .ok (.iaload, 1) := by decide +kernel
theorem dL_law_171 : decode cL_law 171 = .ok (.ifCond .eq 7, 3) := by decide +kernel
theorem dL_law_174 : decode cL_law 174 = .ok (.iconst 1, 1) := by decide +kernel
theorem dL_law_175 : decode cL_law 175 = .ok (.goto 4, 3) := by decide +kernel
theorem dL_law_178 : decode cL_law 178 = .ok (.iconst 0, 1) := by decide +kernel
theorem dL_law_179 : decode cL_law 179 = .ok (.aload_n 0, 1) := by decide +kernel
theorem dL_law_180 : decode cL_law 180 = .ok (.iload_n 3, 1) := by decide +kernel
theorem dL_law_181 : decode cL_law 181 = .ok (.iconst 2, 1) := by decide +kernel
theorem dL_law_182 : decode cL_law 182 = .ok (.iadd, 1) := by decide +kernel
theorem dL_law_183 : decode cL_law 183 = .ok (.iaload, 1) := by decide +kernel
theorem dL_law_184 : decode cL_law 184 = .ok (.ifCond .eq 7, 3) := by decide +kernel
theorem dL_law_187 : decode cL_law 187 = .ok (.iconst 1, 1) := by decide +kernel
theorem dL_law_188 : decode cL_law 188 = .ok (.goto 4, 3) := by decide +kernel
theorem dL_law_191 : decode cL_law 191 = .ok (.iconst 0, 1) := by decide +kernel
theorem dL_law_192 : decode cL_law 192 = .ok (.aload_n 0, 1) := by decide +kernel
theorem dL_law_193 : decode cL_law 193 = .ok (.iload_n 3, 1) := by decide +kernel
theorem dL_law_194 : decode cL_law 194 = .ok (.iconst 3, 1) := by decide +kernel
theorem dL_law_195 : decode cL_law 195 = .ok (.iadd, 1) := by decide +kernel
theorem dL_law_196 : decode cL_law 196 = .ok (.iaload, 1) := by decide +kernel
theorem dL_law_197 : decode cL_law 197 = .ok (.aload_n 0, 1) := by decide +kernel
theorem dL_law_198 : decode cL_law 198 = .ok (.iload_n 3, 1) := by decide +kernel
theorem dL_law_199 : decode cL_law 199 = .ok (.iconst 4, 1) := by decide +kernel
theorem dL_law_200 : decode cL_law 200 = .ok (.iadd, 1) := by decide +kernel
theorem dL_law_201 : decode cL_law 201 = .ok (.iaload, 1) := by decide +kernel
theorem dL_law_202 : decode cL_law 202 = .ok (.invokevirtual 18, 3) := by decide +kernel
theorem dL_law_205 : decode cL_law 205 = .ok (.aload_n 2, 1) := by decide +kernel
theorem dL_law_206 : decode cL_law 206 = .ok (.aload_n 0, 1) := by decide +kernel
theorem dL_law_207 : decode cL_law 207 = .ok (.iload_n 3, 1) := by decide +kernel
theorem dL_law_208 : decode cL_law 208 = .ok (.iconst 1, 1) := by decide +kernel
theorem dL_law_209 : decode cL_law 209 = .ok (.iadd, 1) := by decide +kernel
theorem dL_law_210 : decode cL_law 210 = .ok (.iaload, 1) := by decide +kernel
theorem dL_law_211 : decode cL_law 211 = .ok (.ifCond .eq 7, 3) := by decide +kernel
theorem dL_law_214 : decode cL_law 214 = .ok (.iconst 1, 1) := by decide +kernel
theorem dL_law_215 : decode cL_law 215 = .ok (.goto 4, 3) := by decide +kernel
theorem dL_law_218 : decode cL_law 218 = .ok (.iconst 0, 1) := by decide +kernel
theorem dL_law_219 : decode cL_law 219 = .ok (.aload_n 0, 1) := by decide +kernel
theorem dL_law_220 : decode cL_law 220 = .ok (.iload_n 3, 1) := by decide +kernel
theorem dL_law_221 : decode cL_law 221 = .ok (.iconst 2, 1) := by decide +kernel
theorem dL_law_222 : decode cL_law 222 = .ok (.iadd, 1) := by decide +kernel
theorem dL_law_223 : decode cL_law 223 = .ok (.iaload, 1) := by decide +kernel
theorem dL_law_224 : decode cL_law 224 = .ok (.ifCond .eq 7, 3) := by decide +kernel
theorem dL_law_227 : decode cL_law 227 = .ok (.iconst 1, 1) := by decide +kernel
theorem dL_law_228 : decode cL_law 228 = .ok (.goto 4, 3) := by decide +kernel
theorem dL_law_231 : decode cL_law 231 = .ok (.iconst 0, 1) := by decide +kernel
theorem dL_law_232 : decode cL_law 232 = .ok (.aload_n 0, 1) := by decide +kernel
theorem dL_law_233 : decode cL_law 233 = .ok (.iload_n 3, 1) := by decide +kernel
theorem dL_law_234 : decode cL_law 234 = .ok (.iconst 3, 1) := by decide +kernel
theorem dL_law_235 : decode cL_law 235 = .ok (.iadd, 1) := by decide +kernel
theorem dL_law_236 : decode cL_law 236 = .ok (.iaload, 1) := by decide +kernel
theorem dL_law_237 : decode cL_law 237 = .ok (.aload_n 0, 1) := by decide +kernel
theorem dL_law_238 : decode cL_law 238 = .ok (.iload_n 3, 1) := by decide +kernel
theorem dL_law_239 : decode cL_law 239 = .ok (.iconst 4, 1) := by decide +kernel
theorem dL_law_240 : decode cL_law 240 = .ok (.iadd, 1) := by decide +kernel
theorem dL_law_241 : decode cL_law 241 = .ok (.iaload, 1) := by decide +kernel
theorem dL_law_242 : decode cL_law 242 = .ok (.invokevirtual 22, 3) := by decide +kernel
theorem dL_law_245 : decode cL_law 245 = .ok (.if_icmp .eq 488, 3) := by decide +kernel
theorem dL_law_248 : decode cL_law 248 = .ok (.iconst 0, 1) := by decide +kernel
theorem dL_law_249 : decode cL_law 249 = .ok (.ireturn, 1) := by decide +kernel
theorem dL_law_250 : decode cL_law 250 = .ok (.aload_n 1, 1) := by decide +kernel
theorem dL_law_251 : decode cL_law 251 = .ok (.invokevirtual 23, 3) := by decide +kernel
theorem dL_law_254 : decode cL_law 254 = .ok (.aload_n 2, 1) := by decide +kernel
theorem dL_law_255 : decode cL_law 255 = .ok (.invokevirtual 27, 3) := by decide +kernel
theorem dL_law_258 : decode cL_law 258 = .ok (.if_icmp .eq 475, 3) := by decide +kernel
theorem dL_law_261 : decode cL_law 261 = .ok (.iconst 0, 1) := by decide +kernel
theorem dL_law_262 : decode cL_law 262 = .ok (.ireturn, 1) := by decide +kernel
theorem dL_law_263 : decode cL_law 263 = .ok (.aload_n 1, 1) := by decide +kernel
theorem dL_law_264 : decode cL_law 264 = .ok (.aload_n 0, 1) := by decide +kernel
theorem dL_law_265 : decode cL_law 265 = .ok (.iload_n 3, 1) := by decide +kernel
theorem dL_law_266 : decode cL_law 266 = .ok (.iconst 1, 1) := by decide +kernel
theorem dL_law_267 : decode cL_law 267 = .ok (.iadd, 1) := by decide +kernel
theorem dL_law_268 : decode cL_law 268 = .ok (.iaload, 1) := by decide +kernel
theorem dL_law_269 : decode cL_law 269 = .ok (.aload_n 0, 1) := by decide +kernel
theorem dL_law_270 : decode cL_law 270 = .ok (.iload_n 3, 1) := by decide +kernel
theorem dL_law_271 : decode cL_law 271 = .ok (.iconst 2, 1) := by decide +kernel
theorem dL_law_272 : decode cL_law 272 = .ok (.iadd, 1) := by decide +kernel
theorem dL_law_273 : decode cL_law 273 = .ok (.iaload, 1) := by decide +kernel
theorem dL_law_274 : decode cL_law 274 = .ok (.aload_n 0, 1) := by decide +kernel
theorem dL_law_275 : decode cL_law 275 = .ok (.iload_n 3, 1) := by decide +kernel
theorem dL_law_276 : decode cL_law 276 = .ok (.iconst 3, 1) := by decide +kernel
theorem dL_law_277 : decode cL_law 277 = .ok (.iadd, 1) := by decide +kernel
theorem dL_law_278 : decode cL_law 278 = .ok (.iaload, 1) := by decide +kernel
theorem dL_law_279 : decode cL_law 279 = .ok (.ifCond .eq 7, 3) := by decide +kernel
theorem dL_law_282 : decode cL_law 282 = .ok (.iconst 1, 1) := by decide +kernel
theorem dL_law_283 : decode cL_law 283 = .ok (.goto 4, 3) := by decide +kernel
theorem dL_law_286 : decode cL_law 286 = .ok (.iconst 0, 1) := by decide +kernel
theorem dL_law_287 : decode cL_law 287 = .ok (.invokevirtual 28, 3) := by decide +kernel
theorem dL_law_290 : decode cL_law 290 = .ok (.aload_n 2, 1) := by decide +kernel
theorem dL_law_291 : decode cL_law 291 = .ok (.aload_n 0, 1) := by decide +kernel
theorem dL_law_292 : decode cL_law 292 = .ok (.iload_n 3, 1) := by decide +kernel
theorem dL_law_293 : decode cL_law 293 = .ok (.iconst 1, 1) := by decide +kernel
theorem dL_law_294 : decode cL_law 294 = .ok (.iadd, 1) := by decide +kernel
theorem dL_law_295 : decode cL_law 295 = .ok (.iaload, 1) := by decide +kernel
theorem dL_law_296 : decode cL_law 296 = .ok (.aload_n 0, 1) := by decide +kernel
theorem dL_law_297 : decode cL_law 297 = .ok (.iload_n 3, 1) := by decide +kernel
theorem dL_law_298 : decode cL_law 298 = .ok (.iconst 2, 1) := by decide +kernel
theorem dL_law_299 : decode cL_law 299 = .ok (.iadd, 1) := by decide +kernel
theorem dL_law_300 : decode cL_law 300 = .ok (.iaload, 1) := by decide +kernel
theorem dL_law_301 : decode cL_law 301 = .ok (.aload_n 0, 1) := by decide +kernel
theorem dL_law_302 : decode cL_law 302 = .ok (.iload_n 3, 1) := by decide +kernel
theorem dL_law_303 : decode cL_law 303 = .ok (.iconst 3, 1) := by decide +kernel
theorem dL_law_304 : decode cL_law 304 = .ok (.iadd, 1) := by decide +kernel
theorem dL_law_305 : decode cL_law 305 = .ok (.iaload, 1) := by decide +kernel
theorem dL_law_306 : decode cL_law 306 = .ok (.ifCond .eq 7, 3) := by decide +kernel
theorem dL_law_309 : decode cL_law 309 = .ok (.iconst 1, 1) := by decide +kernel
theorem dL_law_310 : decode cL_law 310 = .ok (.goto 4, 3) := by decide +kernel
theorem dL_law_313 : decode cL_law 313 = .ok (.iconst 0, 1) := by decide +kernel
theorem dL_law_314 : decode cL_law 314 = .ok (.invokevirtual 32, 3) := by decide +kernel
theorem dL_law_317 : decode cL_law 317 = .ok (.if_icmp .eq 416, 3) := by decide +kernel
theorem dL_law_320 : decode cL_law 320 = .ok (.iconst 0, 1) := by decide +kernel
theorem dL_law_321 : decode cL_law 321 = .ok (.ireturn, 1) := by decide +kernel
theorem dL_law_322 : decode cL_law 322 = .ok (.aload_n 1, 1) := by decide +kernel
theorem dL_law_323 : decode cL_law 323 = .ok (.aload_n 0, 1) := by decide +kernel
theorem dL_law_324 : decode cL_law 324 = .ok (.iload_n 3, 1) := by decide +kernel
theorem dL_law_325 : decode cL_law 325 = .ok (.iconst 1, 1) := by decide +kernel
theorem dL_law_326 : decode cL_law 326 = .ok (.iadd, 1) := by decide +kernel
theorem dL_law_327 : decode cL_law 327 = .ok (.iaload, 1) := by decide +kernel
theorem dL_law_328 : decode cL_law 328 = .ok (.aload_n 0, 1) := by decide +kernel
theorem dL_law_329 : decode cL_law 329 = .ok (.iload_n 3, 1) := by decide +kernel
theorem dL_law_330 : decode cL_law 330 = .ok (.iconst 2, 1) := by decide +kernel
theorem dL_law_331 : decode cL_law 331 = .ok (.iadd, 1) := by decide +kernel
theorem dL_law_332 : decode cL_law 332 = .ok (.iaload, 1) := by decide +kernel
theorem dL_law_333 : decode cL_law 333 = .ok (.invokevirtual 33, 3) := by decide +kernel
theorem dL_law_336 : decode cL_law 336 = .ok (.aload_n 2, 1) := by decide +kernel
theorem dL_law_337 : decode cL_law 337 = .ok (.aload_n 0, 1) := by decide +kernel
theorem dL_law_338 : decode cL_law 338 = .ok (.iload_n 3, 1) := by decide +kernel
theorem dL_law_339 : decode cL_law 339 = .ok (.iconst 1, 1) := by decide +kernel
theorem dL_law_340 : decode cL_law 340 = .ok (.iadd, 1) := by decide +kernel
theorem dL_law_341 : decode cL_law 341 = .ok (.iaload, 1) := by decide +kernel
theorem dL_law_342 : decode cL_law 342 = .ok (.aload_n 0, 1) := by decide +kernel
theorem dL_law_343 : decode cL_law 343 = .ok (.iload_n 3, 1) := by decide +kernel
theorem dL_law_344 : decode cL_law 344 = .ok (.iconst 2, 1) := by decide +kernel
theorem dL_law_345 : decode cL_law 345 = .ok (.iadd, 1) := by decide +kernel
theorem dL_law_346 : decode cL_law 346 = .ok (.iaload, 1) := by decide +kernel
theorem dL_law_347 : decode cL_law 347 = .ok (.invokevirtual 36, 3) := by decide +kernel
theorem dL_law_350 : decode cL_law 350 = .ok (.if_icmp .eq 383, 3) := by decide +kernel
theorem dL_law_353 : decode cL_law 353 = .ok (.iconst 0, 1) := by decide +kernel
theorem dL_law_354 : decode cL_law 354 = .ok (.ireturn, 1) := by decide +kernel
theorem dL_law_355 : decode cL_law 355 = .ok (.aload_n 1, 1) := by decide +kernel
theorem dL_law_356 : decode cL_law 356 = .ok (.aload_n 0, 1) := by decide +kernel
theorem dL_law_357 : decode cL_law 357 = .ok (.iload_n 3, 1) := by decide +kernel
theorem dL_law_358 : decode cL_law 358 = .ok (.iconst 1, 1) := by decide +kernel
theorem dL_law_359 : decode cL_law 359 = .ok (.iadd, 1) := by decide +kernel
theorem dL_law_360 : decode cL_law 360 = .ok (.iaload, 1) := by decide +kernel
theorem dL_law_361 : decode cL_law 361 = .ok (.invokevirtual 37, 3) := by decide +kernel
theorem dL_law_364 : decode cL_law 364 = .ok (.aload_n 2, 1) := by decide +kernel
theorem dL_law_365 : decode cL_law 365 = .ok (.aload_n 0, 1) := by decide +kernel
theorem dL_law_366 : decode cL_law 366 = .ok (.iload_n 3, 1) := by decide +kernel
theorem dL_law_367 : decode cL_law 367 = .ok (.iconst 1, 1) := by decide +kernel
theorem dL_law_368 : decode cL_law 368 = .ok (.iadd, 1) := by decide +kernel
theorem dL_law_369 : decode cL_law 369 = .ok (.iaload, 1) := by decide +kernel
theorem dL_law_370 : decode cL_law 370 = .ok (.invokevirtual 41, 3) := by decide +kernel
theorem dL_law_373 : decode cL_law 373 = .ok (.if_icmp .eq 360, 3) := by decide +kernel
theorem dL_law_376 : decode cL_law 376 = .ok (.iconst 0, 1) := by decide +kernel
theorem dL_law_377 : decode cL_law 377 = .ok (.ireturn, 1) := by decide +kernel
theorem dL_law_378 : decode cL_law 378 = .ok (.aload_n 1, 1) := by decide +kernel
theorem dL_law_379 : decode cL_law 379 = .ok (.aload_n 0, 1) := by decide +kernel
theorem dL_law_380 : decode cL_law 380 = .ok (.iload_n 3, 1) := by decide +kernel
theorem dL_law_381 : decode cL_law 381 = .ok (.iconst 1, 1) := by decide +kernel
theorem dL_law_382 : decode cL_law 382 = .ok (.iadd, 1) := by decide +kernel
theorem dL_law_383 : decode cL_law 383 = .ok (.iaload, 1) := by decide +kernel
theorem dL_law_384 : decode cL_law 384 = .ok (.invokevirtual 42, 3) := by decide +kernel
theorem dL_law_387 : decode cL_law 387 = .ok (.aload_n 2, 1) := by decide +kernel
theorem dL_law_388 : decode cL_law 388 = .ok (.aload_n 0, 1) := by decide +kernel
theorem dL_law_389 : decode cL_law 389 = .ok (.iload_n 3, 1) := by decide +kernel
theorem dL_law_390 : decode cL_law 390 = .ok (.iconst 1, 1) := by decide +kernel
theorem dL_law_391 : decode cL_law 391 = .ok (.iadd, 1) := by decide +kernel
theorem dL_law_392 : decode cL_law 392 = .ok (.iaload, 1) := by decide +kernel
theorem dL_law_393 : decode cL_law 393 = .ok (.invokevirtual 45, 3) := by decide +kernel
theorem dL_law_396 : decode cL_law 396 = .ok (.if_icmp .eq 337, 3) := by decide +kernel
theorem dL_law_399 : decode cL_law 399 = .ok (.iconst 0, 1) := by decide +kernel
theorem dL_law_400 : decode cL_law 400 = .ok (.ireturn, 1) := by decide +kernel
theorem dL_law_401 : decode cL_law 401 = .ok (.aload_n 1, 1) := by decide +kernel
theorem dL_law_402 : decode cL_law 402 = .ok (.aload_n 0, 1) := by decide +kernel
theorem dL_law_403 : decode cL_law 403 = .ok (.iload_n 3, 1) := by decide +kernel
theorem dL_law_404 : decode cL_law 404 = .ok (.iconst 1, 1) := by decide +kernel
theorem dL_law_405 : decode cL_law 405 = .ok (.iadd, 1) := by decide +kernel
theorem dL_law_406 : decode cL_law 406 = .ok (.iaload, 1) := by decide +kernel
theorem dL_law_407 : decode cL_law 407 = .ok (.invokevirtual 46, 3) := by decide +kernel
theorem dL_law_410 : decode cL_law 410 = .ok (.aload_n 2, 1) := by decide +kernel
theorem dL_law_411 : decode cL_law 411 = .ok (.aload_n 0, 1) := by decide +kernel
theorem dL_law_412 : decode cL_law 412 = .ok (.iload_n 3, 1) := by decide +kernel
theorem dL_law_413 : decode cL_law 413 = .ok (.iconst 1, 1) := by decide +kernel
theorem dL_law_414 : decode cL_law 414 = .ok (.iadd, 1) := by decide +kernel
theorem dL_law_415 : decode cL_law 415 = .ok (.iaload, 1) := by decide +kernel
theorem dL_law_416 : decode cL_law 416 = .ok (.invokevirtual 49, 3) := by decide +kernel
theorem dL_law_419 : decode cL_law 419 = .ok (.if_icmp .eq 314, 3) := by decide +kernel
theorem dL_law_422 : decode cL_law 422 = .ok (.iconst 0, 1) := by decide +kernel
theorem dL_law_423 : decode cL_law 423 = .ok (.ireturn, 1) := by decide +kernel
theorem dL_law_424 : decode cL_law 424 = .ok (.aload_n 1, 1) := by decide +kernel
theorem dL_law_425 : decode cL_law 425 = .ok (.aload_n 0, 1) := by decide +kernel
theorem dL_law_426 : decode cL_law 426 = .ok (.iload_n 3, 1) := by decide +kernel
theorem dL_law_427 : decode cL_law 427 = .ok (.iconst 1, 1) := by decide +kernel
theorem dL_law_428 : decode cL_law 428 = .ok (.iadd, 1) := by decide +kernel
theorem dL_law_429 : decode cL_law 429 = .ok (.iaload, 1) := by decide +kernel
theorem dL_law_430 : decode cL_law 430 = .ok (.aload_n 0, 1) := by decide +kernel
theorem dL_law_431 : decode cL_law 431 = .ok (.iload_n 3, 1) := by decide +kernel
theorem dL_law_432 : decode cL_law 432 = .ok (.iconst 2, 1) := by decide +kernel
theorem dL_law_433 : decode cL_law 433 = .ok (.iadd, 1) := by decide +kernel
theorem dL_law_434 : decode cL_law 434 = .ok (.iaload, 1) := by decide +kernel
theorem dL_law_435 : decode cL_law 435 = .ok (.invokevirtual 50, 3) := by decide +kernel
theorem dL_law_438 : decode cL_law 438 = .ok (.aload_n 2, 1) := by decide +kernel
theorem dL_law_439 : decode cL_law 439 = .ok (.aload_n 0, 1) := by decide +kernel
theorem dL_law_440 : decode cL_law 440 = .ok (.iload_n 3, 1) := by decide +kernel
theorem dL_law_441 : decode cL_law 441 = .ok (.iconst 1, 1) := by decide +kernel
theorem dL_law_442 : decode cL_law 442 = .ok (.iadd, 1) := by decide +kernel
theorem dL_law_443 : decode cL_law 443 = .ok (.iaload, 1) := by decide +kernel
theorem dL_law_444 : decode cL_law 444 = .ok (.aload_n 0, 1) := by decide +kernel
theorem dL_law_445 : decode cL_law 445 = .ok (.iload_n 3, 1) := by decide +kernel
theorem dL_law_446 : decode cL_law 446 = .ok (.iconst 2, 1) := by decide +kernel
theorem dL_law_447 : decode cL_law 447 = .ok (.iadd, 1) := by decide +kernel
theorem dL_law_448 : decode cL_law 448 = .ok (.iaload, 1) := by decide +kernel
theorem dL_law_449 : decode cL_law 449 = .ok (.invokevirtual 53, 3) := by decide +kernel
theorem dL_law_452 : decode cL_law 452 = .ok (.if_icmp .eq 281, 3) := by decide +kernel
theorem dL_law_455 : decode cL_law 455 = .ok (.iconst 0, 1) := by decide +kernel
theorem dL_law_456 : decode cL_law 456 = .ok (.ireturn, 1) := by decide +kernel
theorem dL_law_457 : decode cL_law 457 = .ok (.aload_n 1, 1) := by decide +kernel
theorem dL_law_458 : decode cL_law 458 = .ok (.aload_n 0, 1) := by decide +kernel
theorem dL_law_459 : decode cL_law 459 = .ok (.iload_n 3, 1) := by decide +kernel
theorem dL_law_460 : decode cL_law 460 = .ok (.iconst 1, 1) := by decide +kernel
theorem dL_law_461 : decode cL_law 461 = .ok (.iadd, 1) := by decide +kernel
theorem dL_law_462 : decode cL_law 462 = .ok (.iaload, 1) := by decide +kernel
theorem dL_law_463 : decode cL_law 463 = .ok (.invokevirtual 54, 3) := by decide +kernel
theorem dL_law_466 : decode cL_law 466 = .ok (.aload_n 2, 1) := by decide +kernel
theorem dL_law_467 : decode cL_law 467 = .ok (.aload_n 0, 1) := by decide +kernel
theorem dL_law_468 : decode cL_law 468 = .ok (.iload_n 3, 1) := by decide +kernel
theorem dL_law_469 : decode cL_law 469 = .ok (.iconst 1, 1) := by decide +kernel
theorem dL_law_470 : decode cL_law 470 = .ok (.iadd, 1) := by decide +kernel
theorem dL_law_471 : decode cL_law 471 = .ok (.iaload, 1) := by decide +kernel
theorem dL_law_472 : decode cL_law 472 = .ok (.invokevirtual 57, 3) := by decide +kernel
theorem dL_law_475 : decode cL_law 475 = .ok (.if_icmp .eq 258, 3) := by decide +kernel
theorem dL_law_478 : decode cL_law 478 = .ok (.iconst 0, 1) := by decide +kernel
theorem dL_law_479 : decode cL_law 479 = .ok (.ireturn, 1) := by decide +kernel
theorem dL_law_480 : decode cL_law 480 = .ok (.aload_n 1, 1) := by decide +kernel
theorem dL_law_481 : decode cL_law 481 = .ok (.aload_n 0, 1) := by decide +kernel
theorem dL_law_482 : decode cL_law 482 = .ok (.iload_n 3, 1) := by decide +kernel
theorem dL_law_483 : decode cL_law 483 = .ok (.iconst 1, 1) := by decide +kernel
theorem dL_law_484 : decode cL_law 484 = .ok (.iadd, 1) := by decide +kernel
theorem dL_law_485 : decode cL_law 485 = .ok (.iaload, 1) := by decide +kernel
theorem dL_law_486 : decode cL_law 486 = .ok (.invokevirtual 58, 3) := by decide +kernel
theorem dL_law_489 : decode cL_law 489 = .ok (.aload_n 2, 1) := by decide +kernel
theorem dL_law_490 : decode cL_law 490 = .ok (.aload_n 0, 1) := by decide +kernel
theorem dL_law_491 : decode cL_law 491 = .ok (.iload_n 3, 1) := by decide +kernel
theorem dL_law_492 : decode cL_law 492 = .ok (.iconst 1, 1) := by decide +kernel
theorem dL_law_493 : decode cL_law 493 = .ok (.iadd, 1) := by decide +kernel
theorem dL_law_494 : decode cL_law 494 = .ok (.iaload, 1) := by decide +kernel
theorem dL_law_495 : decode cL_law 495 = .ok (.invokevirtual 61, 3) := by decide +kernel
theorem dL_law_498 : decode cL_law 498 = .ok (.if_icmp .eq 235, 3) := by decide +kernel
theorem dL_law_501 : decode cL_law 501 = .ok (.iconst 0, 1) := by decide +kernel
theorem dL_law_502 : decode cL_law 502 = .ok (.ireturn, 1) := by decide +kernel
theorem dL_law_503 : decode cL_law 503 = .ok (.aload_n 1, 1) := by decide +kernel
theorem dL_law_504 : decode cL_law 504 = .ok (.aload_n 0, 1) := by decide +kernel
theorem dL_law_505 : decode cL_law 505 = .ok (.iload_n 3, 1) := by decide +kernel
theorem dL_law_506 : decode cL_law 506 = .ok (.iconst 1, 1) := by decide +kernel
theorem dL_law_507 : decode cL_law 507 = .ok (.iadd, 1) := by decide +kernel
theorem dL_law_508 : decode cL_law 508 = .ok (.iaload, 1) := by decide +kernel
theorem dL_law_509 : decode cL_law 509 = .ok (.aload_n 0, 1) := by decide +kernel
theorem dL_law_510 : decode cL_law 510 = .ok (.iload_n 3, 1) := by decide +kernel
theorem dL_law_511 : decode cL_law 511 = .ok (.iconst 2, 1) := by decide +kernel
theorem dL_law_512 : decode cL_law 512 = .ok (.iadd, 1) := by decide +kernel
theorem dL_law_513 : decode cL_law 513 = .ok (.iaload, 1) := by decide +kernel
theorem dL_law_514 : decode cL_law 514 = .ok (.invokevirtual 62, 3) := by decide +kernel
theorem dL_law_517 : decode cL_law 517 = .ok (.aload_n 2, 1) := by decide +kernel
theorem dL_law_518 : decode cL_law 518 = .ok (.aload_n 0, 1) := by decide +kernel
theorem dL_law_519 : decode cL_law 519 = .ok (.iload_n 3, 1) := by decide +kernel
theorem dL_law_520 : decode cL_law 520 = .ok (.iconst 1, 1) := by decide +kernel
theorem dL_law_521 : decode cL_law 521 = .ok (.iadd, 1) := by decide +kernel
theorem dL_law_522 : decode cL_law 522 = .ok (.iaload, 1) := by decide +kernel
theorem dL_law_523 : decode cL_law 523 = .ok (.aload_n 0, 1) := by decide +kernel
theorem dL_law_524 : decode cL_law 524 = .ok (.iload_n 3, 1) := by decide +kernel
theorem dL_law_525 : decode cL_law 525 = .ok (.iconst 2, 1) := by decide +kernel
theorem dL_law_526 : decode cL_law 526 = .ok (.iadd, 1) := by decide +kernel
theorem dL_law_527 : decode cL_law 527 = .ok (.iaload, 1) := by decide +kernel
theorem dL_law_528 : decode cL_law 528 = .ok (.invokevirtual 65, 3) := by decide +kernel
theorem dL_law_531 : decode cL_law 531 = .ok (.if_icmp .eq 202, 3) := by decide +kernel
theorem dL_law_534 : decode cL_law 534 = .ok (.iconst 0, 1) := by decide +kernel
theorem dL_law_535 : decode cL_law 535 = .ok (.ireturn, 1) := by decide +kernel
theorem dL_law_536 : decode cL_law 536 = .ok (.aload_n 1, 1) := by decide +kernel
theorem dL_law_537 : decode cL_law 537 = .ok (.invokevirtual 66, 3) := by decide +kernel
theorem dL_law_540 : decode cL_law 540 = .ok (.aload_n 2, 1) := by decide +kernel
theorem dL_law_541 : decode cL_law 541 = .ok (.invokevirtual 69, 3) := by decide +kernel
theorem dL_law_544 : decode cL_law 544 = .ok (.if_icmp .eq 189, 3) := by decide +kernel
theorem dL_law_547 : decode cL_law 547 = .ok (.iconst 0, 1) := by decide +kernel
theorem dL_law_548 : decode cL_law 548 = .ok (.ireturn, 1) := by decide +kernel
theorem dL_law_549 : decode cL_law 549 = .ok (.aload_n 1, 1) := by decide +kernel
theorem dL_law_550 : decode cL_law 550 = .ok (.aload_n 0, 1) := by decide +kernel
theorem dL_law_551 : decode cL_law 551 = .ok (.iload_n 3, 1) := by decide +kernel
theorem dL_law_552 : decode cL_law 552 = .ok (.iconst 1, 1) := by decide +kernel
theorem dL_law_553 : decode cL_law 553 = .ok (.iadd, 1) := by decide +kernel
theorem dL_law_554 : decode cL_law 554 = .ok (.iaload, 1) := by decide +kernel
theorem dL_law_555 : decode cL_law 555 = .ok (.invokevirtual 70, 3) := by decide +kernel
theorem dL_law_558 : decode cL_law 558 = .ok (.aload_n 2, 1) := by decide +kernel
theorem dL_law_559 : decode cL_law 559 = .ok (.aload_n 0, 1) := by decide +kernel
theorem dL_law_560 : decode cL_law 560 = .ok (.iload_n 3, 1) := by decide +kernel
theorem dL_law_561 : decode cL_law 561 = .ok (.iconst 1, 1) := by decide +kernel
theorem dL_law_562 : decode cL_law 562 = .ok (.iadd, 1) := by decide +kernel
theorem dL_law_563 : decode cL_law 563 = .ok (.iaload, 1) := by decide +kernel
theorem dL_law_564 : decode cL_law 564 = .ok (.invokevirtual 73, 3) := by decide +kernel
theorem dL_law_567 : decode cL_law 567 = .ok (.if_icmp .eq 166, 3) := by decide +kernel
theorem dL_law_570 : decode cL_law 570 = .ok (.iconst 0, 1) := by decide +kernel
theorem dL_law_571 : decode cL_law 571 = .ok (.ireturn, 1) := by decide +kernel
theorem dL_law_572 : decode cL_law 572 = .ok (.aload_n 1, 1) := by decide +kernel
theorem dL_law_573 : decode cL_law 573 = .ok (.aload_n 0, 1) := by decide +kernel
theorem dL_law_574 : decode cL_law 574 = .ok (.iload_n 3, 1) := by decide +kernel
theorem dL_law_575 : decode cL_law 575 = .ok (.iconst 1, 1) := by decide +kernel
theorem dL_law_576 : decode cL_law 576 = .ok (.iadd, 1) := by decide +kernel
theorem dL_law_577 : decode cL_law 577 = .ok (.iaload, 1) := by decide +kernel
theorem dL_law_578 : decode cL_law 578 = .ok (.invokevirtual 74, 3) := by decide +kernel
theorem dL_law_581 : decode cL_law 581 = .ok (.aload_n 2, 1) := by decide +kernel
theorem dL_law_582 : decode cL_law 582 = .ok (.aload_n 0, 1) := by decide +kernel
theorem dL_law_583 : decode cL_law 583 = .ok (.iload_n 3, 1) := by decide +kernel
theorem dL_law_584 : decode cL_law 584 = .ok (.iconst 1, 1) := by decide +kernel
theorem dL_law_585 : decode cL_law 585 = .ok (.iadd, 1) := by decide +kernel
theorem dL_law_586 : decode cL_law 586 = .ok (.iaload, 1) := by decide +kernel
theorem dL_law_587 : decode cL_law 587 = .ok (.invokevirtual 77, 3) := by decide +kernel
theorem dL_law_590 : decode cL_law 590 = .ok (.if_icmp .eq 143, 3) := by decide +kernel
theorem dL_law_593 : decode cL_law 593 = .ok (.iconst 0, 1) := by decide +kernel
theorem dL_law_594 : decode cL_law 594 = .ok (.ireturn, 1) := by decide +kernel
theorem dL_law_595 : decode cL_law 595 = .ok (.aload_n 1, 1) := by decide +kernel
theorem dL_law_596 : decode cL_law 596 = .ok (.aload_n 0, 1) := by decide +kernel
theorem dL_law_597 : decode cL_law 597 = .ok (.iload_n 3, 1) := by decide +kernel
theorem dL_law_598 : decode cL_law 598 = .ok (.iconst 1, 1) := by decide +kernel
theorem dL_law_599 : decode cL_law 599 = .ok (.iadd, 1) := by decide +kernel
theorem dL_law_600 : decode cL_law 600 = .ok (.iaload, 1) := by decide +kernel
theorem dL_law_601 : decode cL_law 601 = .ok (.i2l, 1) := by decide +kernel
theorem dL_law_602 : decode cL_law 602 = .ok (.bipush 32, 2) := by decide +kernel
theorem dL_law_604 : decode cL_law 604 = .ok (.lshl, 1) := by decide +kernel
theorem dL_law_605 : decode cL_law 605 = .ok (.aload_n 0, 1) := by decide +kernel
theorem dL_law_606 : decode cL_law 606 = .ok (.iload_n 3, 1) := by decide +kernel
theorem dL_law_607 : decode cL_law 607 = .ok (.iconst 2, 1) := by decide +kernel
theorem dL_law_608 : decode cL_law 608 = .ok (.iadd, 1) := by decide +kernel
theorem dL_law_609 : decode cL_law 609 = .ok (.iaload, 1) := by decide +kernel
theorem dL_law_610 : decode cL_law 610 = .ok (.i2l, 1) := by decide +kernel
theorem dL_law_611 : decode cL_law 611 = .ok (.ldc2_w 78, 3) := by decide +kernel
theorem dL_law_614 : decode cL_law 614 = .ok (.land, 1) := by decide +kernel
theorem dL_law_615 : decode cL_law 615 = .ok (.lor, 1) := by decide +kernel
theorem dL_law_616 : decode cL_law 616 = .ok (.invokevirtual 80, 3) := by decide +kernel
theorem dL_law_619 : decode cL_law 619 = .ok (.aload_n 2, 1) := by decide +kernel
theorem dL_law_620 : decode cL_law 620 = .ok (.aload_n 0, 1) := by decide +kernel
theorem dL_law_621 : decode cL_law 621 = .ok (.iload_n 3, 1) := by decide +kernel
theorem dL_law_622 : decode cL_law 622 = .ok (.iconst 1, 1) := by decide +kernel
theorem dL_law_623 : decode cL_law 623 = .ok (.iadd, 1) := by decide +kernel
theorem dL_law_624 : decode cL_law 624 = .ok (.iaload, 1) := by decide +kernel
theorem dL_law_625 : decode cL_law 625 = .ok (.i2l, 1) := by decide +kernel
theorem dL_law_626 : decode cL_law 626 = .ok (.bipush 32, 2) := by decide +kernel
theorem dL_law_628 : decode cL_law 628 = .ok (.lshl, 1) := by decide +kernel
theorem dL_law_629 : decode cL_law 629 = .ok (.aload_n 0, 1) := by decide +kernel
theorem dL_law_630 : decode cL_law 630 = .ok (.iload_n 3, 1) := by decide +kernel
theorem dL_law_631 : decode cL_law 631 = .ok (.iconst 2, 1) := by decide +kernel
theorem dL_law_632 : decode cL_law 632 = .ok (.iadd, 1) := by decide +kernel
theorem dL_law_633 : decode cL_law 633 = .ok (.iaload, 1) := by decide +kernel
theorem dL_law_634 : decode cL_law 634 = .ok (.i2l, 1) := by decide +kernel
theorem dL_law_635 : decode cL_law 635 = .ok (.ldc2_w 78, 3) := by decide +kernel
theorem dL_law_638 : decode cL_law 638 = .ok (.land, 1) := by decide +kernel
theorem dL_law_639 : decode cL_law 639 = .ok (.lor, 1) := by decide +kernel
theorem dL_law_640 : decode cL_law 640 = .ok (.invokevirtual 84, 3) := by decide +kernel
theorem dL_law_643 : decode cL_law 643 = .ok (.if_icmp .eq 90, 3) := by decide +kernel
theorem dL_law_646 : decode cL_law 646 = .ok (.iconst 0, 1) := by decide +kernel
theorem dL_law_647 : decode cL_law 647 = .ok (.ireturn, 1) := by decide +kernel
theorem dL_law_648 : decode cL_law 648 = .ok (.aload_n 1, 1) := by decide +kernel
theorem dL_law_649 : decode cL_law 649 = .ok (.invokevirtual 85, 3) := by decide +kernel
theorem dL_law_652 : decode cL_law 652 = .ok (.aload_n 2, 1) := by decide +kernel
theorem dL_law_653 : decode cL_law 653 = .ok (.invokevirtual 88, 3) := by decide +kernel
theorem dL_law_656 : decode cL_law 656 = .ok (.if_icmp .eq 77, 3) := by decide +kernel
theorem dL_law_659 : decode cL_law 659 = .ok (.iconst 0, 1) := by decide +kernel
theorem dL_law_660 : decode cL_law 660 = .ok (.ireturn, 1) := by decide +kernel
theorem dL_law_661 : decode cL_law 661 = .ok (.aload_n 1, 1) := by decide +kernel
theorem dL_law_662 : decode cL_law 662 = .ok (.invokevirtual 89, 3) := by decide +kernel
theorem dL_law_665 : decode cL_law 665 = .ok (.aload_n 2, 1) := by decide +kernel
theorem dL_law_666 : decode cL_law 666 = .ok (.invokevirtual 92, 3) := by decide +kernel
theorem dL_law_669 : decode cL_law 669 = .ok (.if_icmp .eq 64, 3) := by decide +kernel
theorem dL_law_672 : decode cL_law 672 = .ok (.iconst 0, 1) := by decide +kernel
theorem dL_law_673 : decode cL_law 673 = .ok (.ireturn, 1) := by decide +kernel
theorem dL_law_674 : decode cL_law 674 = .ok (.aload_n 1, 1) := by decide +kernel
theorem dL_law_675 : decode cL_law 675 = .ok (.invokevirtual 93, 3) := by decide +kernel
theorem dL_law_678 : decode cL_law 678 = .ok (.aload_n 2, 1) := by decide +kernel
theorem dL_law_679 : decode cL_law 679 = .ok (.invokevirtual 96, 3) := by decide +kernel
theorem dL_law_682 : decode cL_law 682 = .ok (.if_icmp .eq 51, 3) := by decide +kernel
theorem dL_law_685 : decode cL_law 685 = .ok (.iconst 0, 1) := by decide +kernel
theorem dL_law_686 : decode cL_law 686 = .ok (.ireturn, 1) := by decide +kernel
theorem dL_law_687 : decode cL_law 687 = .ok (.aload_n 1, 1) := by decide +kernel
theorem dL_law_688 : decode cL_law 688 = .ok (.aload_n 0, 1) := by decide +kernel
theorem dL_law_689 : decode cL_law 689 = .ok (.iload_n 3, 1) := by decide +kernel
theorem dL_law_690 : decode cL_law 690 = .ok (.iconst 1, 1) := by decide +kernel
theorem dL_law_691 : decode cL_law 691 = .ok (.iadd, 1) := by decide +kernel
theorem dL_law_692 : decode cL_law 692 = .ok (.iaload, 1) := by decide +kernel
theorem dL_law_693 : decode cL_law 693 = .ok (.invokevirtual 97, 3) := by decide +kernel
theorem dL_law_696 : decode cL_law 696 = .ok (.aload_n 2, 1) := by decide +kernel
theorem dL_law_697 : decode cL_law 697 = .ok (.aload_n 0, 1) := by decide +kernel
theorem dL_law_698 : decode cL_law 698 = .ok (.iload_n 3, 1) := by decide +kernel
theorem dL_law_699 : decode cL_law 699 = .ok (.iconst 1, 1) := by decide +kernel
theorem dL_law_700 : decode cL_law 700 = .ok (.iadd, 1) := by decide +kernel
theorem dL_law_701 : decode cL_law 701 = .ok (.iaload, 1) := by decide +kernel
theorem dL_law_702 : decode cL_law 702 = .ok (.invokevirtual 100, 3) := by decide +kernel
theorem dL_law_705 : decode cL_law 705 = .ok (.if_icmp .eq 28, 3) := by decide +kernel
theorem dL_law_708 : decode cL_law 708 = .ok (.iconst 0, 1) := by decide +kernel
theorem dL_law_709 : decode cL_law 709 = .ok (.ireturn, 1) := by decide +kernel
theorem dL_law_710 : decode cL_law 710 = .ok (.aload_n 1, 1) := by decide +kernel
theorem dL_law_711 : decode cL_law 711 = .ok (.aload_n 0, 1) := by decide +kernel
theorem dL_law_712 : decode cL_law 712 = .ok (.iload_n 3, 1) := by decide +kernel
theorem dL_law_713 : decode cL_law 713 = .ok (.iconst 1, 1) := by decide +kernel
theorem dL_law_714 : decode cL_law 714 = .ok (.iadd, 1) := by decide +kernel
theorem dL_law_715 : decode cL_law 715 = .ok (.iaload, 1) := by decide +kernel
theorem dL_law_716 : decode cL_law 716 = .ok (.invokevirtual 101, 3) := by decide +kernel
theorem dL_law_719 : decode cL_law 719 = .ok (.aload_n 2, 1) := by decide +kernel
theorem dL_law_720 : decode cL_law 720 = .ok (.aload_n 0, 1) := by decide +kernel
theorem dL_law_721 : decode cL_law 721 = .ok (.iload_n 3, 1) := by decide +kernel
theorem dL_law_722 : decode cL_law 722 = .ok (.iconst 1, 1) := by decide +kernel
theorem dL_law_723 : decode cL_law 723 = .ok (.iadd, 1) := by decide +kernel
theorem dL_law_724 : decode cL_law 724 = .ok (.iaload, 1) := by decide +kernel
theorem dL_law_725 : decode cL_law 725 = .ok (.invokevirtual 104, 3) := by decide +kernel
theorem dL_law_728 : decode cL_law 728 = .ok (.if_icmp .eq 5, 3) := by decide +kernel
theorem dL_law_731 : decode cL_law 731 = .ok (.iconst 0, 1) := by decide +kernel
theorem dL_law_732 : decode cL_law 732 = .ok (.ireturn, 1) := by decide +kernel
theorem dL_law_733 : decode cL_law 733 = .ok (.iinc 3 5, 3) := by decide +kernel
theorem dL_law_736 : decode cL_law 736 = .ok (.goto (-718), 3) := by decide +kernel
theorem dL_law_739 : decode cL_law 739 = .ok (.iconst 1, 1) := by decide +kernel
theorem dL_law_740 : decode cL_law 740 = .ok (.ireturn, 1) := by decide +kernel
end
section
/-! THE PACKAGED WORLD: all cells that the law's run makes lie one behind the other from 'pb E' on; the memory is two functions (ints, references) of a cell's number and a place in it. G: the machine's judgement W with this world inside. -/
abbrev EE : Type := va_G × (ClassId × ClassId × ClassId) × Nat
abbrev Mi : Type := Nat → Nat → Int32
abbrev Mr : Type := Nat → Nat → Option Nat
abbrev pb (E : EE) : Nat := E.2.2
abbrev ptys (E : EE) : List (ClassId × FieldType) := [(E.2.1.1, .int), (E.2.1.2.1, .char), (E.2.1.2.2, .object RX0)]
abbrev rf (E : EE) (k : Nat) : Value := .ref (pb E + k)
def up (I : Mi) (k j : Nat) (v : Int32) : Mi := fun x y => if x = k ∧ y = j then v else I x y
def ur (F : Mr) (k j : Nat) (v : Option Nat) : Mr := fun x y => if x = k ∧ y = j then v else F x y
def rr (b : Nat) (o : Option Nat) : Value := va_rf (o.map (fun k => b + k))
def fl (b : Nat) (I : Nat → Int32) (F : Nat → Option Nat) : Nat → List Bool → List Value
  | _, [] => []
  | j, r :: t => (if r then rr b (F j) else .int (I j)) :: fl b I F (j + 1) t
theorem fl_get (b : Nat) (I : Nat → Int32) (F : Nat → Option Nat) : ∀ (bs : List Bool) (j0 j : Nat), (fl b I F j0 bs)[j]? = (bs[j]?).map (fun r => if r then rr b (F (j0 + j)) else .int (I (j0 + j)))
  | [], j0, j => by simp [fl]
  | r :: t, j0, 0 => by simp [fl]
  | r :: t, j0, j + 1 => by
    have h := fl_get b I F t (j0 + 1) j
    simp only [fl, List.getElem?_cons_succ, h]
    rw [show j0 + 1 + j = j0 + (j + 1) by omega]
theorem fl_len (b : Nat) (I : Nat → Int32) (F : Nat → Option Nat) : ∀ (bs : List Bool) (j0 : Nat), (fl b I F j0 bs).length = bs.length
  | [], j0 => rfl
  | r :: t, j0 => by simp [fl, fl_len b I F t (j0 + 1)]
theorem fl_ext {b : Nat} {I I' : Nat → Int32} {F F' : Nat → Option Nat} {bs : List Bool} {j0 j : Nat} {v : Value} (hj : j < bs.length) (hv : v = if bs.getD j false then rr b (F' (j0 + j)) else .int (I' (j0 + j))) (h : ∀ x, x ≠ j0 + j → I' x = I x ∧ F' x = F x) : (fl b I F j0 bs).set j v = fl b I' F' j0 bs := by
  apply List.ext_getElem?
  intro i
  rw [fl_get, List.getElem?_set]
  by_cases hi : j = i
  · subst hi
    rw [if_pos rfl, fl_len, if_pos hj, hv]
    have h1 : bs[j]? = some bs[j] := List.getElem?_eq_getElem hj
    simp [h1]
  · rw [if_neg hi, fl_get]
    obtain ⟨a1, a2⟩ := h (j0 + i) (by omega)
    rw [a1, a2]

def isr : Nat → List Bool
  | 0 => [false, false, false, true, true, true, true, true, true, true, true, true, false, false, false, false, false, false, true]
  | 1 => [true, false, false, false, false, false, false]
  | 2 => [true, false]
  | 3 => [true, false]
  | 4 => [true, true, true, true, true, true, true, false]
  | 5 => [true, true, true, false, true, true, true, false, true, true, false, false, false, false, false, false]
  | _ => []
abbrev gw : List Cond := lw_tbl.filter goodWord
theorem gw_of {w : Cond} (i : Nat) (h : lw_tbl[i]? = some w) (hg : goodWord w = true) : w ∈ gw := List.mem_filter.mpr ⟨List.mem_of_getElem? h, hg⟩
theorem gw_good {w : Cond} (h : w ∈ gw) : (w.onTables && w.keeps) = true ∨ ∃ ty, w = .arrayClass ty := good_of_word (List.mem_filter.mp h).2
def isNest : Cond → Bool
  | .fieldLinkNest .. => true
  | .methodLinkNest .. => true
  | _ => false
/-- the words on nest mates: the tables keep them, but not as the others -/
abbrev nw : List Cond := lw_tbl.filter isNest
theorem nw_of {w : Cond} (i : Nat) (h : lw_tbl[i]? = some w) (hg : isNest w = true) : w ∈ nw := List.mem_filter.mpr ⟨List.mem_of_getElem? h, hg⟩
def NW (U : State) : Prop := ∀ w ∈ nw, va_Nw w U
theorem NW.warm {s U : State} (hW : s.WarmedH U.vm) (h : NW s) : NW U := fun w hw => by
  have h1 := h w hw
  have h2 := (List.mem_filter.mp hw).2
  cases w <;> first | exact va_Nw.warmF hW h1 | exact va_Nw.warmM hW h1 | exact Bool.noConfusion h2
theorem NW.same {s U : State} (hv : s.vm = U.vm) (h : NW s) : NW U := fun w hw => by
  have h1 := h w hw
  have h2 := (List.mem_filter.mp hw).2
  cases w <;> first | exact Bool.noConfusion h2 | exact va_Nw.same rfl hv h1
theorem NW.at {args : Array Value} {s : State} (h : NW s) {w : Cond} (hw : w ∈ nw) : w.before args s = true := by
  have h1 := h w hw
  have h2 := (List.mem_filter.mp hw).2
  cases w <;> first | exact Bool.noConfusion h2 | exact va_Nw.use rfl h1
theorem gw_in {ws : List Cond} (h : ∀ w ∈ ws, w ∈ gw) : GoodIn gw ws := fun w hw => ⟨h w hw, gw_good (h w hw)⟩
/-- what cell number k is: (class number, fields) for an object; (6, n) chars, (7, n) ints, (8, n) references to chips -/
def KL : List (Nat × Nat) := [(4, 8), (0, 19), (7, 8), (7, 8), (7, 8), (7, 8), (7, 8), (7, 8), (7, 8), (7, 8), (7, 8), (7, 8), (0, 19), (7, 8), (7, 8), (7, 8), (7, 8), (7, 8), (7, 8), (7, 8), (7, 8), (7, 8), (7, 8), (3, 2), (6, 64), (1, 7), (0, 19), (7, 8), (7, 8), (7, 8), (7, 8), (7, 8), (7, 8), (7, 8), (7, 8), (7, 8), (7, 8), (2, 2), (8, 6), (0, 19), (7, 8), (7, 8), (7, 8), (7, 8), (7, 8), (7, 8), (7, 8), (7, 8), (7, 8), (7, 8), (0, 19), (7, 8), (7, 8), (7, 8), (7, 8), (7, 8), (7, 8), (7, 8), (7, 8), (7, 8), (7, 8), (0, 19), (7, 8), (7, 8), (7, 8), (7, 8), (7, 8), (7, 8), (7, 8), (7, 8), (7, 8), (7, 8), (0, 19), (7, 8), (7, 8), (7, 8), (7, 8), (7, 8), (7, 8), (7, 8), (7, 8), (7, 8), (7, 8), (0, 19), (7, 8), (7, 8), (7, 8), (7, 8), (7, 8), (7, 8), (7, 8), (7, 8), (7, 8), (7, 8), (0, 19), (7, 8), (7, 8), (7, 8), (7, 8), (7, 8), (7, 8), (7, 8), (7, 8), (7, 8), (7, 8), (0, 19), (7, 8), (7, 8), (7, 8), (7, 8), (7, 8), (7, 8), (7, 8), (7, 8), (7, 8), (7, 8), (0, 19), (7, 8), (7, 8), (7, 8), (7, 8), (7, 8), (7, 8), (7, 8), (7, 8), (7, 8), (7, 8), (5, 16), (7, 96), (7, 96), (7, 576), (7, 192), (7, 2), (7, 64), (7, 8), (7, 8)]
abbrev NT : Nat := 136
def kd (k : Nat) : Nat × Nat := KL.getD k (9, 0)
def cellOf (E : EE) (I : Mi) (F : Mr) (k : Nat) : va_E :=
  if (kd k).1 = 6 then .inl (E.2.1.2.1, (kd k).2, .inl (I k))
  else if (kd k).1 = 7 then .inl (E.2.1.1, (kd k).2, .inl (I k))
  else if (kd k).1 = 8 then .inl (E.2.1.2.2, (kd k).2, .inr (.inr (.inr (.inr (fun j => (F k j).map (fun x => pb E + x))))))
  else .inr ((kd k).1, fl (pb E) (I k) (F k) 0 (isr (kd k).1))
def wsOf (E : EE) (N : Nat) (I : Mi) (F : Mr) : va_W := (List.range N).map (fun k => (pb E + k, cellOf E I F k))
theorem wsOf_len (E : EE) (N : Nat) (I : Mi) (F : Mr) : (wsOf E N I F).length = N := by simp [wsOf]
theorem wsOf_get {E : EE} {N : Nat} {I : Mi} {F : Mr} {k : Nat} (h : k < N) : (wsOf E N I F)[k]? = some (pb E + k, cellOf E I F k) := by simp [wsOf, h]
theorem wsOf_inv {E : EE} {N : Nat} {I : Mi} {F : Mr} {k : Nat} {q : Nat × va_E} (h : (wsOf E N I F)[k]? = some q) : k < N ∧ q = (pb E + k, cellOf E I F k) := by
  have hk : k < N := by have := (List.getElem?_eq_some_iff.mp h).1; rwa [wsOf_len] at this
  exact ⟨hk, Option.some.inj (h.symm.trans (wsOf_get hk))⟩
theorem wsOf_set {E : EE} {N : Nat} {I I2 : Mi} {F F2 : Mr} {k : Nat} (e : va_E) (hk : k < N) (he : e = cellOf E I2 F2 k) (h : ∀ x, x ≠ k → I2 x = I x ∧ F2 x = F x) : (wsOf E N I F).set k (pb E + k, e) = wsOf E N I2 F2 := by
  apply List.ext_getElem?
  intro i
  rw [List.getElem?_set]
  by_cases hi : k = i
  · subst hi
    rw [if_pos rfl, wsOf_len, if_pos hk, wsOf_get hk, he]
  · rw [if_neg hi]
    by_cases hN : i < N
    · rw [wsOf_get hN, wsOf_get hN]
      obtain ⟨a1, a2⟩ := h i (fun z => hi z.symm)
      simp only [cellOf, a1, a2]
    · rw [List.getElem?_eq_none (by rw [wsOf_len]; omega), List.getElem?_eq_none (by rw [wsOf_len]; omega)]
theorem wsOf_D (E : EE) (N : Nat) (I : Mi) (F : Mr) : va_D (fun q => pb E ≤ q) (wsOf E N I F) := by
  refine ⟨fun i j p q hi hj h => ?_, fun k q hk => ?_⟩
  · obtain ⟨-, rfl⟩ := wsOf_inv hi
    obtain ⟨-, rfl⟩ := wsOf_inv hj
    simp only at h
    omega
  · obtain ⟨-, rfl⟩ := wsOf_inv hk
    exact Nat.le_add_right _ _
theorem wsOf_push {E : EE} {N : Nat} {I : Mi} {F : Mr} (e : va_E) (he : e = cellOf E I F N) : wsOf E N I F ++ [(pb E + N, e)] = wsOf E (N + 1) I F := by
  rw [he]; simp [wsOf, List.range_succ]
/-- the locals as a list: what stands at a place, if it is known -/
def lo : Nat → List (Option Value) → List (Nat × Value)
  | _, [] => []
  | i, none :: t => lo (i + 1) t
  | i, some v :: t => (i, v) :: lo (i + 1) t
theorem lo_mem : ∀ (ls : List (Option Value)) (i0 j : Nat) (v : Value), ((j, v) ∈ lo i0 ls ↔ i0 ≤ j ∧ ls[j - i0]? = some (some v))
  | [], i0, j, v => by simp [lo]
  | none :: t, i0, j, v => by
    simp only [lo]
    rw [lo_mem t (i0 + 1) j v]
    rcases Nat.lt_trichotomy j i0 with h | h | h
    · constructor <;> intro q <;> omega
    · subst h; simp; intro q; omega
    · rw [show j - i0 = (j - (i0 + 1)) + 1 by omega, List.getElem?_cons_succ]
      constructor <;> intro q <;> exact ⟨by omega, q.2⟩
  | some w :: t, i0, j, v => by
    simp only [lo, List.mem_cons]
    rw [lo_mem t (i0 + 1) j v]
    rcases Nat.lt_trichotomy j i0 with h | h | h
    · constructor
      · rintro (q | q)
        · cases q; omega
        · omega
      · intro q; omega
    · subst h
      simp
      constructor
      · rintro (q | q)
        · exact q.symm
        · omega
      · intro q; exact Or.inl q.symm
    · rw [show j - i0 = (j - (i0 + 1)) + 1 by omega, List.getElem?_cons_succ]
      constructor
      · rintro (q | q)
        · cases q; omega
        · exact ⟨by omega, q.2⟩
      · intro q; exact Or.inr ⟨by omega, q.2⟩
theorem lo_at {la : Array Slot} {nL : Nat} {ls : List (Option Value)} (h : lv_has la nL (lo 0 ls)) {i : Nat} {v : Value} (hv : ls[i]? = some (some v)) : la[i]? = some (.val v) := h.2.2 (i, v) ((lo_mem ls 0 i v).mpr ⟨Nat.zero_le _, by simpa using hv⟩)
/-- no long stands just ahead of place i -/
def lok (ls : List (Option Value)) : Nat → Bool
  | 0 => true
  | j + 1 => match ls[j]? with
    | some (some w) => w.category == 1
    | _ => true
theorem lok_at {ls : List (Option Value)} {i j : Nat} {w : Value} (h : lok ls i = true) (hj : j + 1 = i) (hw : ls[j]? = some (some w)) : (w.category == 2) = false := by
  subst hj
  simp only [lok, hw, beq_iff_eq] at h
  simp [h]
theorem lo_set1 {la : Array Slot} {nL i : Nat} {ls : List (Option Value)} {v : Value} (hk : lok ls i = true) (hi : i < ls.length) (h : lv_has la nL ((i, v) :: (lo 0 ls).filter (fun q => !(q.1 == i) && !(q.1 + 1 == i && q.2.category == 2)))) : lv_has la nL (lo 0 (ls.set i (some v))) := by
  refine ⟨h.1, h.2.1, fun q hq => h.2.2 q ?_⟩
  obtain ⟨j, w⟩ := q
  have h1 := ((lo_mem _ 0 j w).mp hq).2
  rw [Nat.sub_zero, List.getElem?_set] at h1
  by_cases hji : i = j
  · subst hji
    rw [if_pos rfl, if_pos hi] at h1
    cases h1
    exact List.mem_cons_self
  · rw [if_neg hji] at h1
    refine List.mem_cons_of_mem _ (List.mem_filter.mpr ⟨(lo_mem ls 0 j w).mpr ⟨Nat.zero_le _, by simpa using h1⟩, ?_⟩)
    by_cases h2 : j + 1 = i
    · simp [Ne.symm hji, lok_at hk h2 h1]
    · simp [Ne.symm hji, h2]
theorem lo_set2 {la : Array Slot} {nL i : Nat} {ls : List (Option Value)} {v : Value} (hk : lok ls i = true) (hi : i < ls.length) (h : lv_has la nL ((i, v) :: (lo 0 ls).filter (fun q => !(q.1 == i) && (!(q.1 == i + 1) && !(q.1 + 1 == i && q.2.category == 2))))) : lv_has la nL (lo 0 ((ls.set i (some v)).set (i + 1) none)) := by
  refine ⟨h.1, h.2.1, fun q hq => h.2.2 q ?_⟩
  obtain ⟨j, w⟩ := q
  have h1 := ((lo_mem _ 0 j w).mp hq).2
  rw [Nat.sub_zero, List.getElem?_set] at h1
  by_cases hj1 : i + 1 = j
  · subst hj1
    rw [if_pos rfl] at h1
    split at h1 <;> cases h1
  · rw [if_neg hj1, List.getElem?_set] at h1
    by_cases hji : i = j
    · subst hji
      rw [if_pos rfl, if_pos hi] at h1
      cases h1
      exact List.mem_cons_self
    · rw [if_neg hji] at h1
      refine List.mem_cons_of_mem _ (List.mem_filter.mpr ⟨(lo_mem ls 0 j w).mpr ⟨Nat.zero_le _, by simpa using h1⟩, ?_⟩)
      by_cases h2 : j + 1 = i
      · simp [Ne.symm hji, Ne.symm hj1, lok_at hk h2 h1]
      · simp [Ne.symm hji, Ne.symm hj1, h2]
section PK
variable {E : EE} {N nL : Nat} {own : String} {cc : ByteArray} {p : Program} {l : Launch} {e : Env} {R : Room} {s : State} {m : MethodId} {args : Array Value} {below : List Frame} {meth : Method} {c : Code} {cells slots : Nat} {Q : State → Prop} {I : Mi} {F : Mr} {pc : Nat} {ls : List (Option Value)} {st : List Value}
def Cx (E : EE) (own : String) (cc : ByteArray) (nL : Nat) (p : Program) (s : State) (m : MethodId) (args : Array Value) (meth : Method) (c : Code) : Prop :=
  p.tables.exec = Jvm.exec ∧ c.code = cc ∧ c.maxLocals = nL ∧ s.vm.findClass own = some m.cls ∧ (∀ w ∈ gw, w.before args s = true) ∧ va_K E.1 vwCl (ptys E) s ∧ meth.locks = false ∧ NW s
def G (E : EE) (N nL : Nat) (p : Program) (l : Launch) (e : Env) (R : Room) (s : State) (m : MethodId) (args : Array Value) (below : List Frame) (meth : Method) (c : Code) (cells slots : Nat) (Q : State → Prop) (I : Mi) (F : Mr) (pc : Nat) (ls : List (Option Value)) (st : List Value) : Prop :=
  s.heap.size + cells = pb E + N → ls.length = nL → ∀ (H : Heap) (locs : List Loc) (la : Array Slot), va_P E.1 vwCl (wsOf E N I F) H → va_S (fun q => pb E ≤ q) s.heap H locs → lv_has la nL (lo 0 ls) → W p l e R s m args below meth c H locs cells slots Q (F0 m pc la st)
theorem W_sz {H : Heap} {locs : List Loc} {g : JFrame} (k : H.size ≤ s.heap.size + cells → W p l e R s m args below meth c H locs cells slots Q g) : W p l e R s m args below meth c H locs cells slots Q g := fun T hT X => k (by rw [← hT]; exact X.heapSize) T hT X
/-- the rows of the straight instructions -/
theorem g_iconst (C : Cx E own cc nL p s m args meth c) {n : Int} {v : Int32} (d : decode cc pc = .ok (.iconst n, 1)) (hv : Int32.ofInt n = v) (k : G E N nL p l e R s m args below meth c cells slots Q I F (pc + 1) ls (.int v :: st)) : G E N nL p l e R s m args below meth c cells slots Q I F pc ls st := fun h hn H locs la hP hS hl => lv_iconst C.1 C.2.1 d hv (k h hn H locs la hP hS hl)
theorem g_bipush (C : Cx E own cc nL p s m args meth c) {n : Int} {v : Int32} (d : decode cc pc = .ok (.bipush n, 2)) (hv : (Int8.ofInt n).toInt32 = v) (k : G E N nL p l e R s m args below meth c cells slots Q I F (pc + 2) ls (.int v :: st)) : G E N nL p l e R s m args below meth c cells slots Q I F pc ls st := fun h hn H locs la hP hS hl => lv_bipush C.1 C.2.1 d hv (k h hn H locs la hP hS hl)
theorem g_sipush (C : Cx E own cc nL p s m args meth c) {n : Int} {v : Int32} (d : decode cc pc = .ok (.sipush n, 3)) (hv : (Int16.ofInt n).toInt32 = v) (k : G E N nL p l e R s m args below meth c cells slots Q I F (pc + 3) ls (.int v :: st)) : G E N nL p l e R s m args below meth c cells slots Q I F pc ls st := fun h hn H locs la hP hS hl => lv_sipush C.1 C.2.1 d hv (k h hn H locs la hP hS hl)
theorem g_lconst (C : Cx E own cc nL p s m args meth c) {n : Fin 2} {v : Int64} (d : decode cc pc = .ok (.lconst n, 1)) (hv : Int64.ofNat (n : Nat) = v) (k : G E N nL p l e R s m args below meth c cells slots Q I F (pc + 1) ls (.long v :: st)) : G E N nL p l e R s m args below meth c cells slots Q I F pc ls st := fun h hn H locs la hP hS hl => lv_lconst C.1 C.2.1 d hv (k h hn H locs la hP hS hl)
theorem g_null (C : Cx E own cc nL p s m args meth c)  (d : decode cc pc = .ok (.aconst_null, 1))  (k : G E N nL p l e R s m args below meth c cells slots Q I F (pc + 1) ls (.null :: st)) : G E N nL p l e R s m args below meth c cells slots Q I F pc ls st := fun h hn H locs la hP hS hl => lv_null C.1 C.2.1 d  (k h hn H locs la hP hS hl)
theorem g_iload_n (C : Cx E own cc nL p s m args meth c) {k9 : Fin 4} {i : Nat} {x : Int32} (d : decode cc pc = .ok (.iload_n k9, 1)) (hi : (k9 : Nat) = i) (hv : ls[i]? = some (some (.int x))) (k : G E N nL p l e R s m args below meth c cells slots Q I F (pc + 1) ls (.int x :: st)) : G E N nL p l e R s m args below meth c cells slots Q I F pc ls st := fun h hn H locs la hP hS hl => lv_iload_n C.1 C.2.1 d hi (lo_at hl hv) (k h hn H locs la hP hS hl)
theorem g_iload (C : Cx E own cc nL p s m args meth c) {i : Nat} {x : Int32} (d : decode cc pc = .ok (.iload i, 2)) (hv : ls[i]? = some (some (.int x))) (k : G E N nL p l e R s m args below meth c cells slots Q I F (pc + 2) ls (.int x :: st)) : G E N nL p l e R s m args below meth c cells slots Q I F pc ls st := fun h hn H locs la hP hS hl => lv_iload C.1 C.2.1 d (lo_at hl hv) (k h hn H locs la hP hS hl)
theorem g_lload_n (C : Cx E own cc nL p s m args meth c) {k9 : Fin 4} {i : Nat} {x : Int64} (d : decode cc pc = .ok (.lload_n k9, 1)) (hi : (k9 : Nat) = i) (hv : ls[i]? = some (some (.long x))) (k : G E N nL p l e R s m args below meth c cells slots Q I F (pc + 1) ls (.long x :: st)) : G E N nL p l e R s m args below meth c cells slots Q I F pc ls st := fun h hn H locs la hP hS hl => lv_lload_n C.1 C.2.1 d hi (lo_at hl hv) (k h hn H locs la hP hS hl)
theorem g_lload (C : Cx E own cc nL p s m args meth c) {i : Nat} {x : Int64} (d : decode cc pc = .ok (.lload i, 2)) (hv : ls[i]? = some (some (.long x))) (k : G E N nL p l e R s m args below meth c cells slots Q I F (pc + 2) ls (.long x :: st)) : G E N nL p l e R s m args below meth c cells slots Q I F pc ls st := fun h hn H locs la hP hS hl => lv_lload C.1 C.2.1 d (lo_at hl hv) (k h hn H locs la hP hS hl)
theorem g_aload_n (C : Cx E own cc nL p s m args meth c) {k9 : Fin 4} {i x : Nat} (d : decode cc pc = .ok (.aload_n k9, 1)) (hi : (k9 : Nat) = i) (hv : ls[i]? = some (some (.ref x))) (k : G E N nL p l e R s m args below meth c cells slots Q I F (pc + 1) ls (.ref x :: st)) : G E N nL p l e R s m args below meth c cells slots Q I F pc ls st := fun h hn H locs la hP hS hl => lv_aload_n C.1 C.2.1 d hi (lo_at hl hv) (k h hn H locs la hP hS hl)
theorem g_aload (C : Cx E own cc nL p s m args meth c) {i x : Nat} (d : decode cc pc = .ok (.aload i, 2)) (hv : ls[i]? = some (some (.ref x))) (k : G E N nL p l e R s m args below meth c cells slots Q I F (pc + 2) ls (.ref x :: st)) : G E N nL p l e R s m args below meth c cells slots Q I F pc ls st := fun h hn H locs la hP hS hl => lv_aload C.1 C.2.1 d (lo_at hl hv) (k h hn H locs la hP hS hl)
theorem g_aload_nN (C : Cx E own cc nL p s m args meth c) {k9 : Fin 4} {i : Nat} (d : decode cc pc = .ok (.aload_n k9, 1)) (hi : (k9 : Nat) = i) (hv : ls[i]? = some (some .null)) (k : G E N nL p l e R s m args below meth c cells slots Q I F (pc + 1) ls (.null :: st)) : G E N nL p l e R s m args below meth c cells slots Q I F pc ls st := fun h hn H locs la hP hS hl => lv_aload_nN C.1 C.2.1 d hi (lo_at hl hv) (k h hn H locs la hP hS hl)
theorem g_istore_n (C : Cx E own cc nL p s m args meth c) {k9 : Fin 4} {x : Int32} {i : Nat} (d : decode cc pc = .ok (.istore_n k9, 1)) (h9 : (k9 : Nat) = i) (hi : (i < nL)) (hk : lok ls i = true) (k : G E N nL p l e R s m args below meth c cells slots Q I F (pc + 1) (ls.set i (some (.int x))) st) : G E N nL p l e R s m args below meth c cells slots Q I F pc ls ((.int x) :: st) := fun h hn H locs la hP hS hl => lv_istore_n C.1 C.2.1 d h9 hl hi rfl (fun la2 h2 => k h (by simp [hn]) H locs la2 hP hS (lo_set1 hk (by omega) h2))
theorem g_istore (C : Cx E own cc nL p s m args meth c) {x : Int32} {i : Nat} (d : decode cc pc = .ok (.istore i, 2))  (hi : (i < nL)) (hk : lok ls i = true) (k : G E N nL p l e R s m args below meth c cells slots Q I F (pc + 2) (ls.set i (some (.int x))) st) : G E N nL p l e R s m args below meth c cells slots Q I F pc ls ((.int x) :: st) := fun h hn H locs la hP hS hl => lv_istore C.1 C.2.1 d  hl hi rfl (fun la2 h2 => k h (by simp [hn]) H locs la2 hP hS (lo_set1 hk (by omega) h2))
theorem g_lstore_n (C : Cx E own cc nL p s m args meth c) {k9 : Fin 4} {x : Int64} {i : Nat} (d : decode cc pc = .ok (.lstore_n k9, 1)) (h9 : (k9 : Nat) = i) (hi : (i + 1 < nL)) (hk : lok ls i = true) (k : G E N nL p l e R s m args below meth c cells slots Q I F (pc + 1) ((ls.set i (some (.long x))).set (i + 1) none) st) : G E N nL p l e R s m args below meth c cells slots Q I F pc ls ((.long x) :: st) := fun h hn H locs la hP hS hl => lv_lstore_n C.1 C.2.1 d h9 hl hi rfl (fun la2 h2 => k h (by simp [hn]) H locs la2 hP hS (lo_set2 hk (by omega) h2))
theorem g_lstore (C : Cx E own cc nL p s m args meth c) {x : Int64} {i : Nat} (d : decode cc pc = .ok (.lstore i, 2))  (hi : (i + 1 < nL)) (hk : lok ls i = true) (k : G E N nL p l e R s m args below meth c cells slots Q I F (pc + 2) ((ls.set i (some (.long x))).set (i + 1) none) st) : G E N nL p l e R s m args below meth c cells slots Q I F pc ls ((.long x) :: st) := fun h hn H locs la hP hS hl => lv_lstore C.1 C.2.1 d  hl hi rfl (fun la2 h2 => k h (by simp [hn]) H locs la2 hP hS (lo_set2 hk (by omega) h2))
theorem g_astore_n (C : Cx E own cc nL p s m args meth c) {k9 : Fin 4} {x : Nat} {i : Nat} (d : decode cc pc = .ok (.astore_n k9, 1)) (h9 : (k9 : Nat) = i) (hi : (i < nL)) (hk : lok ls i = true) (k : G E N nL p l e R s m args below meth c cells slots Q I F (pc + 1) (ls.set i (some (.ref x))) st) : G E N nL p l e R s m args below meth c cells slots Q I F pc ls ((.ref x) :: st) := fun h hn H locs la hP hS hl => lv_astore_n C.1 C.2.1 d h9 hl hi rfl (fun la2 h2 => k h (by simp [hn]) H locs la2 hP hS (lo_set1 hk (by omega) h2))
theorem g_astore (C : Cx E own cc nL p s m args meth c) {x : Nat} {i : Nat} (d : decode cc pc = .ok (.astore i, 2))  (hi : (i < nL)) (hk : lok ls i = true) (k : G E N nL p l e R s m args below meth c cells slots Q I F (pc + 2) (ls.set i (some (.ref x))) st) : G E N nL p l e R s m args below meth c cells slots Q I F pc ls ((.ref x) :: st) := fun h hn H locs la hP hS hl => lv_astore C.1 C.2.1 d  hl hi rfl (fun la2 h2 => k h (by simp [hn]) H locs la2 hP hS (lo_set1 hk (by omega) h2))
theorem g_astore_nN (C : Cx E own cc nL p s m args meth c) {k9 : Fin 4} {i : Nat} (d : decode cc pc = .ok (.astore_n k9, 1)) (h9 : (k9 : Nat) = i) (hi : (i < nL)) (hk : lok ls i = true) (k : G E N nL p l e R s m args below meth c cells slots Q I F (pc + 1) (ls.set i (some .null)) st) : G E N nL p l e R s m args below meth c cells slots Q I F pc ls (.null :: st) := fun h hn H locs la hP hS hl => lv_astore_nN C.1 C.2.1 d h9 hl hi rfl (fun la2 h2 => k h (by simp [hn]) H locs la2 hP hS (lo_set1 hk (by omega) h2))
theorem g_iinc (C : Cx E own cc nL p s m args meth c) {i : Nat} {n : Int} {x v : Int32} (d : decode cc pc = .ok (.iinc i n, 3)) (hv : ls[i]? = some (some (.int x))) (hx : x + Int32.ofInt n = v) (hi : i < nL) (hk : lok ls i = true) (k : G E N nL p l e R s m args below meth c cells slots Q I F (pc + 3) (ls.set i (some (.int v))) st) : G E N nL p l e R s m args below meth c cells slots Q I F pc ls st := fun h hn H locs la hP hS hl => by
  obtain ⟨j, hj⟩ := List.getElem?_of_mem ((lo_mem ls 0 i (.int x)).mpr ⟨Nat.zero_le _, by simpa using hv⟩)
  exact lv_iinc C.1 C.2.1 d hl hj hx hi rfl (fun la2 h2 => k h (by simp [hn]) H locs la2 hP hS (lo_set1 hk (by omega) h2))
theorem g_iadd (C : Cx E own cc nL p s m args meth c) {x y : Int32} (d : decode cc pc = .ok (.iadd, 1))  (k : G E N nL p l e R s m args below meth c cells slots Q I F (pc + 1) ls (.int (x + y) :: st)) : G E N nL p l e R s m args below meth c cells slots Q I F pc ls (.int y :: .int x :: st) := fun h hn H locs la hP hS hl => lv_iadd C.1 C.2.1 d  (k h hn H locs la hP hS hl)
theorem g_isub (C : Cx E own cc nL p s m args meth c) {x y : Int32} (d : decode cc pc = .ok (.isub, 1))  (k : G E N nL p l e R s m args below meth c cells slots Q I F (pc + 1) ls (.int (x - y) :: st)) : G E N nL p l e R s m args below meth c cells slots Q I F pc ls (.int y :: .int x :: st) := fun h hn H locs la hP hS hl => lv_isub C.1 C.2.1 d  (k h hn H locs la hP hS hl)
theorem g_imul (C : Cx E own cc nL p s m args meth c) {x y : Int32} (d : decode cc pc = .ok (.imul, 1))  (k : G E N nL p l e R s m args below meth c cells slots Q I F (pc + 1) ls (.int (x * y) :: st)) : G E N nL p l e R s m args below meth c cells slots Q I F pc ls (.int y :: .int x :: st) := fun h hn H locs la hP hS hl => lv_imul C.1 C.2.1 d  (k h hn H locs la hP hS hl)
theorem g_iand (C : Cx E own cc nL p s m args meth c) {x y : Int32} (d : decode cc pc = .ok (.iand, 1))  (k : G E N nL p l e R s m args below meth c cells slots Q I F (pc + 1) ls (.int (x &&& y) :: st)) : G E N nL p l e R s m args below meth c cells slots Q I F pc ls (.int y :: .int x :: st) := fun h hn H locs la hP hS hl => lv_iand C.1 C.2.1 d  (k h hn H locs la hP hS hl)
theorem g_ior (C : Cx E own cc nL p s m args meth c) {x y : Int32} (d : decode cc pc = .ok (.ior, 1))  (k : G E N nL p l e R s m args below meth c cells slots Q I F (pc + 1) ls (.int (x ||| y) :: st)) : G E N nL p l e R s m args below meth c cells slots Q I F pc ls (.int y :: .int x :: st) := fun h hn H locs la hP hS hl => lv_ior C.1 C.2.1 d  (k h hn H locs la hP hS hl)
theorem g_ixor (C : Cx E own cc nL p s m args meth c) {x y : Int32} (d : decode cc pc = .ok (.ixor, 1))  (k : G E N nL p l e R s m args below meth c cells slots Q I F (pc + 1) ls (.int (x ^^^ y) :: st)) : G E N nL p l e R s m args below meth c cells slots Q I F pc ls (.int y :: .int x :: st) := fun h hn H locs la hP hS hl => lv_ixor C.1 C.2.1 d  (k h hn H locs la hP hS hl)
theorem g_ishl (C : Cx E own cc nL p s m args meth c) {x y : Int32} (d : decode cc pc = .ok (.ishl, 1))  (k : G E N nL p l e R s m args below meth c cells slots Q I F (pc + 1) ls (.int (x <<< (y &&& 31)) :: st)) : G E N nL p l e R s m args below meth c cells slots Q I F pc ls (.int y :: .int x :: st) := fun h hn H locs la hP hS hl => lv_ishl C.1 C.2.1 d  (k h hn H locs la hP hS hl)
theorem g_ishr (C : Cx E own cc nL p s m args meth c) {x y : Int32} (d : decode cc pc = .ok (.ishr, 1))  (k : G E N nL p l e R s m args below meth c cells slots Q I F (pc + 1) ls (.int (x >>> (y &&& 31)) :: st)) : G E N nL p l e R s m args below meth c cells slots Q I F pc ls (.int y :: .int x :: st) := fun h hn H locs la hP hS hl => lv_ishr C.1 C.2.1 d  (k h hn H locs la hP hS hl)
theorem g_irem (C : Cx E own cc nL p s m args meth c) {x y : Int32} (d : decode cc pc = .ok (.irem, 1)) (hne : ¬ y = 0) (k : G E N nL p l e R s m args below meth c cells slots Q I F (pc + 1) ls (.int (x - (x / y) * y) :: st)) : G E N nL p l e R s m args below meth c cells slots Q I F pc ls (.int y :: .int x :: st) := fun h hn H locs la hP hS hl => lv_irem C.1 C.2.1 d hne (k h hn H locs la hP hS hl)
theorem g_land (C : Cx E own cc nL p s m args meth c) {x y : Int64} (d : decode cc pc = .ok (.land, 1))  (k : G E N nL p l e R s m args below meth c cells slots Q I F (pc + 1) ls (.long (x &&& y) :: st)) : G E N nL p l e R s m args below meth c cells slots Q I F pc ls (.long y :: .long x :: st) := fun h hn H locs la hP hS hl => lv_land C.1 C.2.1 d  (k h hn H locs la hP hS hl)
theorem g_lor (C : Cx E own cc nL p s m args meth c) {x y : Int64} (d : decode cc pc = .ok (.lor, 1))  (k : G E N nL p l e R s m args below meth c cells slots Q I F (pc + 1) ls (.long (x ||| y) :: st)) : G E N nL p l e R s m args below meth c cells slots Q I F pc ls (.long y :: .long x :: st) := fun h hn H locs la hP hS hl => lv_lor C.1 C.2.1 d  (k h hn H locs la hP hS hl)
theorem g_i2l (C : Cx E own cc nL p s m args meth c) {x : Int32} {v : Int64} (d : decode cc pc = .ok (.i2l, 1)) (hv : x.toInt64 = v) (k : G E N nL p l e R s m args below meth c cells slots Q I F (pc + 1) ls (.long v :: st)) : G E N nL p l e R s m args below meth c cells slots Q I F pc ls (.int x :: st) := fun h hn H locs la hP hS hl => lv_i2l C.1 C.2.1 d hv (k h hn H locs la hP hS hl)
theorem g_l2i (C : Cx E own cc nL p s m args meth c) {x : Int64} {v : Int32} (d : decode cc pc = .ok (.l2i, 1)) (hv : x.toInt32 = v) (k : G E N nL p l e R s m args below meth c cells slots Q I F (pc + 1) ls (.int v :: st)) : G E N nL p l e R s m args below meth c cells slots Q I F pc ls (.long x :: st) := fun h hn H locs la hP hS hl => lv_l2i C.1 C.2.1 d hv (k h hn H locs la hP hS hl)
theorem g_i2c (C : Cx E own cc nL p s m args meth c) {x v : Int32} (d : decode cc pc = .ok (.i2c, 1)) (hv : (x.toUInt32 % 65536).toInt32 = v) (k : G E N nL p l e R s m args below meth c cells slots Q I F (pc + 1) ls (.int v :: st)) : G E N nL p l e R s m args below meth c cells slots Q I F pc ls (.int x :: st) := fun h hn H locs la hP hS hl => lv_i2c C.1 C.2.1 d hv (k h hn H locs la hP hS hl)
theorem g_iushr (C : Cx E own cc nL p s m args meth c) {x y v : Int32} (d : decode cc pc = .ok (.iushr, 1)) (hv : (x.toUInt32 >>> (y.toUInt32 &&& Int32.toUInt32 31)).toInt32 = v) (k : G E N nL p l e R s m args below meth c cells slots Q I F (pc + 1) ls (.int v :: st)) : G E N nL p l e R s m args below meth c cells slots Q I F pc ls (.int y :: .int x :: st) := fun h hn H locs la hP hS hl => lv_iushr C.1 C.2.1 d hv (k h hn H locs la hP hS hl)
theorem g_lushr (C : Cx E own cc nL p s m args meth c) {x v : Int64} {y : Int32} (d : decode cc pc = .ok (.lushr, 1)) (hv : (x.toUInt64 >>> (y.toInt64.toUInt64 &&& Int64.toUInt64 63)).toInt64 = v) (k : G E N nL p l e R s m args below meth c cells slots Q I F (pc + 1) ls (.long v :: st)) : G E N nL p l e R s m args below meth c cells slots Q I F pc ls (.int y :: .long x :: st) := fun h hn H locs la hP hS hl => lv_lushr C.1 C.2.1 d hv (k h hn H locs la hP hS hl)
theorem g_lshl (C : Cx E own cc nL p s m args meth c) {x v : Int64} {y : Int32} (d : decode cc pc = .ok (.lshl, 1)) (hv : x <<< (y.toInt64 &&& 63) = v) (k : G E N nL p l e R s m args below meth c cells slots Q I F (pc + 1) ls (.long v :: st)) : G E N nL p l e R s m args below meth c cells slots Q I F pc ls (.int y :: .long x :: st) := fun h hn H locs la hP hS hl => lv_lshl C.1 C.2.1 d hv (k h hn H locs la hP hS hl)
theorem g_lcmp (C : Cx E own cc nL p s m args meth c) {x y : Int64} (d : decode cc pc = .ok (.lcmp, 1))  (k : G E N nL p l e R s m args below meth c cells slots Q I F (pc + 1) ls (.int (lg_cmp x y) :: st)) : G E N nL p l e R s m args below meth c cells slots Q I F pc ls (.long y :: .long x :: st) := fun h hn H locs la hP hS hl => W.lcmp C.1 C.2.1 d  (k h hn H locs la hP hS hl)
theorem g_dup (C : Cx E own cc nL p s m args meth c) {v : Value} (d : decode cc pc = .ok (.dup, 1)) (hv : v.category = 1) (k : G E N nL p l e R s m args below meth c cells slots Q I F (pc + 1) ls (v :: v :: st)) : G E N nL p l e R s m args below meth c cells slots Q I F pc ls (v :: st) := fun h hn H locs la hP hS hl => lv_dup C.1 C.2.1 d hv (k h hn H locs la hP hS hl)
theorem g_pop (C : Cx E own cc nL p s m args meth c) {v : Value} (d : decode cc pc = .ok (.pop, 1)) (hv : v.category = 1) (k : G E N nL p l e R s m args below meth c cells slots Q I F (pc + 1) ls st) : G E N nL p l e R s m args below meth c cells slots Q I F pc ls (v :: st) := fun h hn H locs la hP hS hl => lv_pop C.1 C.2.1 d hv (k h hn H locs la hP hS hl)
theorem g_dup2_11 (C : Cx E own cc nL p s m args meth c) {v w : Value} (d : decode cc pc = .ok (.dup2, 1)) (hv : v.category = 1) (hw : w.category = 1) (k : G E N nL p l e R s m args below meth c cells slots Q I F (pc + 1) ls (v :: w :: v :: w :: st)) : G E N nL p l e R s m args below meth c cells slots Q I F pc ls (v :: w :: st) := fun h hn H locs la hP hS hl => lv_dup2_11 C.1 C.2.1 d hv hw (k h hn H locs la hP hS hl)
theorem g_if_eq (C : Cx E own cc nL p s m args meth c) {x : Int32} {off : Int} {tgt : Nat} (d : decode cc pc = .ok (.ifCond .eq off, 3)) (ht : (pc : Int) + off = (tgt : Int)) (kt : x = 0 → G E N nL p l e R s m args below meth c cells slots Q I F tgt ls st) (kf : ¬ x = 0 → G E N nL p l e R s m args below meth c cells slots Q I F (pc + 3) ls st) : G E N nL p l e R s m args below meth c cells slots Q I F pc ls (.int x :: st) := fun h hn H locs la hP hS hl => lv_if_eq C.1 C.2.1 d ht (fun q => kt q h hn H locs la hP hS hl) (fun q => kf q h hn H locs la hP hS hl)
theorem g_if_ne (C : Cx E own cc nL p s m args meth c) {x : Int32} {off : Int} {tgt : Nat} (d : decode cc pc = .ok (.ifCond .ne off, 3)) (ht : (pc : Int) + off = (tgt : Int)) (kt : ¬ x = 0 → G E N nL p l e R s m args below meth c cells slots Q I F tgt ls st) (kf : x = 0 → G E N nL p l e R s m args below meth c cells slots Q I F (pc + 3) ls st) : G E N nL p l e R s m args below meth c cells slots Q I F pc ls (.int x :: st) := fun h hn H locs la hP hS hl => lv_if_ne C.1 C.2.1 d ht (fun q => kt q h hn H locs la hP hS hl) (fun q => kf q h hn H locs la hP hS hl)
theorem g_if_lt (C : Cx E own cc nL p s m args meth c) {x : Int32} {off : Int} {tgt : Nat} (d : decode cc pc = .ok (.ifCond .lt off, 3)) (ht : (pc : Int) + off = (tgt : Int)) (kt : x < 0 → G E N nL p l e R s m args below meth c cells slots Q I F tgt ls st) (kf : ¬ x < 0 → G E N nL p l e R s m args below meth c cells slots Q I F (pc + 3) ls st) : G E N nL p l e R s m args below meth c cells slots Q I F pc ls (.int x :: st) := fun h hn H locs la hP hS hl => lv_if_lt C.1 C.2.1 d ht (fun q => kt q h hn H locs la hP hS hl) (fun q => kf q h hn H locs la hP hS hl)
theorem g_if_ge (C : Cx E own cc nL p s m args meth c) {x : Int32} {off : Int} {tgt : Nat} (d : decode cc pc = .ok (.ifCond .ge off, 3)) (ht : (pc : Int) + off = (tgt : Int)) (kt : 0 ≤ x → G E N nL p l e R s m args below meth c cells slots Q I F tgt ls st) (kf : ¬ 0 ≤ x → G E N nL p l e R s m args below meth c cells slots Q I F (pc + 3) ls st) : G E N nL p l e R s m args below meth c cells slots Q I F pc ls (.int x :: st) := fun h hn H locs la hP hS hl => lv_if_ge C.1 C.2.1 d ht (fun q => kt q h hn H locs la hP hS hl) (fun q => kf q h hn H locs la hP hS hl)
theorem g_if_gt (C : Cx E own cc nL p s m args meth c) {x : Int32} {off : Int} {tgt : Nat} (d : decode cc pc = .ok (.ifCond .gt off, 3)) (ht : (pc : Int) + off = (tgt : Int)) (kt : 0 < x → G E N nL p l e R s m args below meth c cells slots Q I F tgt ls st) (kf : ¬ 0 < x → G E N nL p l e R s m args below meth c cells slots Q I F (pc + 3) ls st) : G E N nL p l e R s m args below meth c cells slots Q I F pc ls (.int x :: st) := fun h hn H locs la hP hS hl => lv_if_gt C.1 C.2.1 d ht (fun q => kt q h hn H locs la hP hS hl) (fun q => kf q h hn H locs la hP hS hl)
theorem g_if_le (C : Cx E own cc nL p s m args meth c) {x : Int32} {off : Int} {tgt : Nat} (d : decode cc pc = .ok (.ifCond .le off, 3)) (ht : (pc : Int) + off = (tgt : Int)) (kt : x ≤ 0 → G E N nL p l e R s m args below meth c cells slots Q I F tgt ls st) (kf : ¬ x ≤ 0 → G E N nL p l e R s m args below meth c cells slots Q I F (pc + 3) ls st) : G E N nL p l e R s m args below meth c cells slots Q I F pc ls (.int x :: st) := fun h hn H locs la hP hS hl => lv_if_le C.1 C.2.1 d ht (fun q => kt q h hn H locs la hP hS hl) (fun q => kf q h hn H locs la hP hS hl)
theorem g_icmp_eq (C : Cx E own cc nL p s m args meth c) {x y : Int32} {off : Int} {tgt : Nat} (d : decode cc pc = .ok (.if_icmp .eq off, 3)) (ht : (pc : Int) + off = (tgt : Int)) (kt : x = y → G E N nL p l e R s m args below meth c cells slots Q I F tgt ls st) (kf : ¬ x = y → G E N nL p l e R s m args below meth c cells slots Q I F (pc + 3) ls st) : G E N nL p l e R s m args below meth c cells slots Q I F pc ls (.int y :: .int x :: st) := fun h hn H locs la hP hS hl => lv_icmp_eq C.1 C.2.1 d ht (fun q => kt q h hn H locs la hP hS hl) (fun q => kf q h hn H locs la hP hS hl)
theorem g_icmp_ne (C : Cx E own cc nL p s m args meth c) {x y : Int32} {off : Int} {tgt : Nat} (d : decode cc pc = .ok (.if_icmp .ne off, 3)) (ht : (pc : Int) + off = (tgt : Int)) (kt : ¬ x = y → G E N nL p l e R s m args below meth c cells slots Q I F tgt ls st) (kf : x = y → G E N nL p l e R s m args below meth c cells slots Q I F (pc + 3) ls st) : G E N nL p l e R s m args below meth c cells slots Q I F pc ls (.int y :: .int x :: st) := fun h hn H locs la hP hS hl => lv_icmp_ne C.1 C.2.1 d ht (fun q => kt q h hn H locs la hP hS hl) (fun q => kf q h hn H locs la hP hS hl)
theorem g_icmp_lt (C : Cx E own cc nL p s m args meth c) {x y : Int32} {off : Int} {tgt : Nat} (d : decode cc pc = .ok (.if_icmp .lt off, 3)) (ht : (pc : Int) + off = (tgt : Int)) (kt : x < y → G E N nL p l e R s m args below meth c cells slots Q I F tgt ls st) (kf : ¬ x < y → G E N nL p l e R s m args below meth c cells slots Q I F (pc + 3) ls st) : G E N nL p l e R s m args below meth c cells slots Q I F pc ls (.int y :: .int x :: st) := fun h hn H locs la hP hS hl => lv_icmp_lt C.1 C.2.1 d ht (fun q => kt q h hn H locs la hP hS hl) (fun q => kf q h hn H locs la hP hS hl)
theorem g_icmp_ge (C : Cx E own cc nL p s m args meth c) {x y : Int32} {off : Int} {tgt : Nat} (d : decode cc pc = .ok (.if_icmp .ge off, 3)) (ht : (pc : Int) + off = (tgt : Int)) (kt : y ≤ x → G E N nL p l e R s m args below meth c cells slots Q I F tgt ls st) (kf : ¬ y ≤ x → G E N nL p l e R s m args below meth c cells slots Q I F (pc + 3) ls st) : G E N nL p l e R s m args below meth c cells slots Q I F pc ls (.int y :: .int x :: st) := fun h hn H locs la hP hS hl => lv_icmp_ge C.1 C.2.1 d ht (fun q => kt q h hn H locs la hP hS hl) (fun q => kf q h hn H locs la hP hS hl)
theorem g_icmp_gt (C : Cx E own cc nL p s m args meth c) {x y : Int32} {off : Int} {tgt : Nat} (d : decode cc pc = .ok (.if_icmp .gt off, 3)) (ht : (pc : Int) + off = (tgt : Int)) (kt : y < x → G E N nL p l e R s m args below meth c cells slots Q I F tgt ls st) (kf : ¬ y < x → G E N nL p l e R s m args below meth c cells slots Q I F (pc + 3) ls st) : G E N nL p l e R s m args below meth c cells slots Q I F pc ls (.int y :: .int x :: st) := fun h hn H locs la hP hS hl => lv_icmp_gt C.1 C.2.1 d ht (fun q => kt q h hn H locs la hP hS hl) (fun q => kf q h hn H locs la hP hS hl)
theorem g_icmp_le (C : Cx E own cc nL p s m args meth c) {x y : Int32} {off : Int} {tgt : Nat} (d : decode cc pc = .ok (.if_icmp .le off, 3)) (ht : (pc : Int) + off = (tgt : Int)) (kt : x ≤ y → G E N nL p l e R s m args below meth c cells slots Q I F tgt ls st) (kf : ¬ x ≤ y → G E N nL p l e R s m args below meth c cells slots Q I F (pc + 3) ls st) : G E N nL p l e R s m args below meth c cells slots Q I F pc ls (.int y :: .int x :: st) := fun h hn H locs la hP hS hl => lv_icmp_le C.1 C.2.1 d ht (fun q => kt q h hn H locs la hP hS hl) (fun q => kf q h hn H locs la hP hS hl)
theorem g_goto (C : Cx E own cc nL p s m args meth c) {off : Int} {tgt : Nat} (d : decode cc pc = .ok (.goto off, 3)) (ht : (pc : Int) + off = (tgt : Int)) (k : G E N nL p l e R s m args below meth c cells slots Q I F tgt ls st) : G E N nL p l e R s m args below meth c cells slots Q I F pc ls st := fun h hn H locs la hP hS hl => lv_goto C.1 C.2.1 d ht (k h hn H locs la hP hS hl)
theorem g_ifnull (C : Cx E own cc nL p s m args meth c) {x : Nat} {off : Int} (d : decode cc pc = .ok (.ifnull off, 3)) (k : G E N nL p l e R s m args below meth c cells slots Q I F (pc + 3) ls st) : G E N nL p l e R s m args below meth c cells slots Q I F pc ls (.ref x :: st) := fun h hn H locs la hP hS hl => lv_ifnull C.1 C.2.1 d (k h hn H locs la hP hS hl)
theorem g_ifnullN (C : Cx E own cc nL p s m args meth c) {off : Int} {tgt : Nat} (d : decode cc pc = .ok (.ifnull off, 3)) (ht : (pc : Int) + off = (tgt : Int)) (k : G E N nL p l e R s m args below meth c cells slots Q I F tgt ls st) : G E N nL p l e R s m args below meth c cells slots Q I F pc ls (.null :: st) := fun h hn H locs la hP hS hl => lv_ifnullN C.1 C.2.1 d ht (k h hn H locs la hP hS hl)
theorem g_tableOut (C : Cx E own cc nL p s m args meth c) {dflt lo9 hi : Int} {offs : Array Int} {len : Nat} {x : Int32} {tgt : Nat} (d : decode cc pc = .ok (.tableswitch dflt lo9 hi offs, len)) (hx : x.toInt < lo9 ∨ hi < x.toInt) (ht : (pc : Int) + dflt = (tgt : Int)) (k : G E N nL p l e R s m args below meth c cells slots Q I F tgt ls st) : G E N nL p l e R s m args below meth c cells slots Q I F pc ls (.int x :: st) := fun h hn H locs la hP hS hl => lv_tableOut C.1 C.2.1 d hx ht (k h hn H locs la hP hS hl)
theorem g_tableIn (C : Cx E own cc nL p s m args meth c) {dflt lo9 hi : Int} {offs : Array Int} {len : Nat} {x : Int32} {off : Int} {tgt : Nat} (d : decode cc pc = .ok (.tableswitch dflt lo9 hi offs, len)) (h1 : ¬ x.toInt < lo9) (h2 : ¬ hi < x.toInt) (ho : offs[(x.toInt - lo9).toNat]? = some off) (ht : (pc : Int) + off = (tgt : Int)) (k : G E N nL p l e R s m args below meth c cells slots Q I F tgt ls st) : G E N nL p l e R s m args below meth c cells slots Q I F pc ls (.int x :: st) := fun h hn H locs la hP hS hl => lv_tableIn C.1 C.2.1 d h1 h2 ho ht (k h hn H locs la hP hS hl)
theorem g_ldcw (C : Cx E own cc nL p s m args meth c) {idx : Nat} {v : Int32} (d : decode cc pc = .ok (.ldc_w idx, 3)) (hw : Jvm.Cond.constant own idx v ∈ gw) (k : G E N nL p l e R s m args below meth c cells slots Q I F (pc + 3) ls (.int v :: st)) : G E N nL p l e R s m args below meth c cells slots Q I F pc ls st := fun h hn H locs la hP hS hl => lv_ldcw C.1 C.2.1 C.2.2.2.1 (C.2.2.2.2.1 _ hw) d (k h hn H locs la hP hS hl)
theorem g_ldc2 (C : Cx E own cc nL p s m args meth c) {idx : Nat} {v : Int64} (d : decode cc pc = .ok (.ldc2_w idx, 3)) (hw : Jvm.Cond.constantLong own idx v ∈ gw) (k : G E N nL p l e R s m args below meth c cells slots Q I F (pc + 3) ls (.long v :: st)) : G E N nL p l e R s m args below meth c cells slots Q I F pc ls st := fun h hn H locs la hP hS hl => lv_ldc2 C.1 C.2.1 C.2.2.2.1 (C.2.2.2.2.1 _ hw) d (k h hn H locs la hP hS hl)
theorem up_ne {I : Mi} {k j : Nat} {v : Int32} {x : Nat} (h : x ≠ k) : up I k j v x = I x := by funext y; simp [up, h]
theorem ur_ne {F : Mr} {k j : Nat} {v : Option Nat} {x : Nat} (h : x ≠ k) : ur F k j v x = F x := by funext y; simp [ur, h]
theorem up_at {I : Mi} {k j : Nat} {v : Int32} : up I k j v k = upd (I k) j v := by funext y; simp [up, upd]
theorem ur_at {F : Mr} {k j : Nat} {v : Option Nat} : ur F k j v k = va_up (F k) j v := by funext y; simp [ur, va_up]
abbrev ix (x : Int32) : Nat := x.toNatClampNeg
abbrev ob (N k q : Nat) : Prop := (kd k).1 = q ∧ k < N
abbrev ar (N k t n : Nat) : Prop := kd k = (t, n) ∧ k < N
theorem cellOf_obj {k q : Nat} (h : (kd k).1 = q) (hq : q < 6) : cellOf E I F k = .inr (q, fl (pb E) (I k) (F k) 0 (isr q)) := by
  subst h
  unfold cellOf
  rw [if_neg (by omega), if_neg (by omega), if_neg (by omega)]
theorem cellOf_chr {k n : Nat} (h : kd k = (6, n)) : cellOf E I F k = .inl (E.2.1.2.1, n, .inl (I k)) := by simp [cellOf, h]
theorem cellOf_int {k n : Nat} (h : kd k = (7, n)) : cellOf E I F k = .inl (E.2.1.1, n, .inl (I k)) := by simp [cellOf, h]
theorem cellOf_ref {k n : Nat} (h : kd k = (8, n)) : cellOf E I F k = .inl (E.2.1.2.2, n, .inr (.inr (.inr (.inr (fun j => (F k j).map (fun x => pb E + x)))))) := by simp [cellOf, h]

theorem g_get0 (C : Cx E own cc nL p s m args meth c) {q nf : Nat} {CN : String} {T : u_T} (hc : vwCl[q]? = some (CN, T, nf)) (hin : ∀ w ∈ u_ws CN T nf, w ∈ gw) {idx : Nat} {ref : String} {j : Nat} (hj : j < nf) (hlink : Cond.fieldLink own idx ref (T j).2.1 (T j).2.2.1 ∈ gw) (href : (T j).1 = ref) {k : Nat} (hk : k < N) (hq : (kd k).1 = q) (hq6 : q < 6) {v : Value} (hv : (fl (pb E) (I k) (F k) 0 (isr q))[j]? = some v) (d : decode cc pc = .ok (.getfield idx, 3)) (kk : G E N nL p l e R s m args below meth c cells slots Q I F (pc + 3) ls (v :: st)) : G E N nL p l e R s m args below meth c cells slots Q I F pc ls (rf E k :: st) := fun h hn H locs la hP hS hl => va_get (D := E.1) (cl := vwCl) C.1 C.2.1 C.2.2.2.2.1 hin C.2.2.2.1 C.2.2.2.2.2.1 hP k (by rw [wsOf_get hk, cellOf_obj hq hq6]) hc j hj (C.2.2.2.2.1 _ hlink) (fun x hx => by subst href; exact hx) hv d (kk h hn H locs la hP hS hl)
theorem g_getN0 (C : Cx E own cc nL p s m args meth c) {q nf : Nat} {CN : String} {T : u_T} (hc : vwCl[q]? = some (CN, T, nf)) (hin : ∀ w ∈ u_ws CN T nf, w ∈ gw) {idx : Nat} {ref host : String} {j : Nat} (hj : j < nf) (hlink : Cond.fieldLinkNest own idx ref (T j).2.1 (T j).2.2.1 host ∈ nw) (href : (T j).1 = ref) {k : Nat} (hk : k < N) (hq : (kd k).1 = q) (hq6 : q < 6) {v : Value} (hv : (fl (pb E) (I k) (F k) 0 (isr q))[j]? = some v) (d : decode cc pc = .ok (.getfield idx, 3)) (kk : G E N nL p l e R s m args below meth c cells slots Q I F (pc + 3) ls (v :: st)) : G E N nL p l e R s m args below meth c cells slots Q I F pc ls (rf E k :: st) := fun h hn H locs la hP hS hl => va_getN (D := E.1) (cl := vwCl) C.1 C.2.1 C.2.2.2.2.1 hin C.2.2.2.1 C.2.2.2.2.2.1 hP k (by rw [wsOf_get hk, cellOf_obj hq hq6]) hc j hj (NW.at C.2.2.2.2.2.2.2 hlink) (fun x hx => by subst href; exact hx) hv d (kk h hn H locs la hP hS hl)
theorem g_put0 (C : Cx E own cc nL p s m args meth c) {q nf : Nat} {CN : String} {T : u_T} (hc : vwCl[q]? = some (CN, T, nf)) (hin : ∀ w ∈ u_ws CN T nf, w ∈ gw) {idx : Nat} {ref : String} {j : Nat} (hj : j < nf) (hlink : Cond.fieldLink own idx ref (T j).2.1 (T j).2.2.1 ∈ gw) (href : (T j).1 = ref) {k : Nat} (hk : k < N) (hq : (kd k).1 = q) (hq6 : q < 6) (hfin : (T j).2.2.2 = false) (ty0 : Nat → FieldType) (hty : ∀ k, k < nf → parseFieldDescriptor (T k).2.2.1 = some (ty0 k)) (hnm : ∀ a, a < nf → ∀ b, b < nf → a ≠ b → (T a).2.1 ≠ (T b).2.1) (hlen : j < (isr q).length) {v : Value} {I2 : Mi} {F2 : Mr} (hnar : narrow (ty0 j) v = v) (hfit : fits (ty0 j) v = true) (hset : (fl (pb E) (I k) (F k) 0 (isr q)).set j v = fl (pb E) (I2 k) (F2 k) 0 (isr q)) (hoth : ∀ x, x ≠ k → I2 x = I x ∧ F2 x = F x) (d : decode cc pc = .ok (.putfield idx, 3)) (kk : G E N nL p l e R s m args below meth c cells slots Q I2 F2 (pc + 3) ls st) : G E N nL p l e R s m args below meth c cells slots Q I F pc ls (v :: rf E k :: st) := fun h hn H locs la hP hS hl => va_put (D := E.1) (cl := vwCl) C.1 C.2.1 C.2.2.2.2.1 hin ty0 hty hnm C.2.2.2.1 C.2.2.2.2.2.1 hP (wsOf_D E N I F) hS k (by rw [wsOf_get hk, cellOf_obj hq hq6]) hc j hj (C.2.2.2.2.1 _ hlink) (fun x hx => by subst href; exact hx) hfin (hty j hj) hnar hfit (by rw [fl_len]; exact hlen) d (fun H1 locs1 hP1 hD1 hS1 => kk h hn H1 locs1 la (by rw [wsOf_set (I2 := I2) (F2 := F2) _ hk (by rw [cellOf_obj hq hq6, hset]) hoth] at hP1; exact hP1) hS1 hl)
theorem g_putN0 (C : Cx E own cc nL p s m args meth c) {q nf : Nat} {CN : String} {T : u_T} (hc : vwCl[q]? = some (CN, T, nf)) (hin : ∀ w ∈ u_ws CN T nf, w ∈ gw) {idx : Nat} {ref host : String} {j : Nat} (hj : j < nf) (hlink : Cond.fieldLinkNest own idx ref (T j).2.1 (T j).2.2.1 host ∈ nw) (href : (T j).1 = ref) {k : Nat} (hk : k < N) (hq : (kd k).1 = q) (hq6 : q < 6) (hfin : (T j).2.2.2 = false) (ty0 : Nat → FieldType) (hty : ∀ k, k < nf → parseFieldDescriptor (T k).2.2.1 = some (ty0 k)) (hnm : ∀ a, a < nf → ∀ b, b < nf → a ≠ b → (T a).2.1 ≠ (T b).2.1) (hlen : j < (isr q).length) {v : Value} {I2 : Mi} {F2 : Mr} (hnar : narrow (ty0 j) v = v) (hfit : fits (ty0 j) v = true) (hset : (fl (pb E) (I k) (F k) 0 (isr q)).set j v = fl (pb E) (I2 k) (F2 k) 0 (isr q)) (hoth : ∀ x, x ≠ k → I2 x = I x ∧ F2 x = F x) (d : decode cc pc = .ok (.putfield idx, 3)) (kk : G E N nL p l e R s m args below meth c cells slots Q I2 F2 (pc + 3) ls st) : G E N nL p l e R s m args below meth c cells slots Q I F pc ls (v :: rf E k :: st) := fun h hn H locs la hP hS hl => va_putN (D := E.1) (cl := vwCl) C.1 C.2.1 C.2.2.2.2.1 hin ty0 hty hnm C.2.2.2.1 C.2.2.2.2.2.1 hP (wsOf_D E N I F) hS k (by rw [wsOf_get hk, cellOf_obj hq hq6]) hc j hj (NW.at C.2.2.2.2.2.2.2 hlink) (fun x hx => by subst href; exact hx) hfin (hty j hj) hnar hfit (by rw [fl_len]; exact hlen) d (fun H1 locs1 hP1 hD1 hS1 => kk h hn H1 locs1 la (by rw [wsOf_set (I2 := I2) (F2 := F2) _ hk (by rw [cellOf_obj hq hq6, hset]) hoth] at hP1; exact hP1) hS1 hl)
theorem g_putF0 (C : Cx E own cc nL p s m args meth c) {q nf : Nat} {CN : String} {T : u_T} (hc : vwCl[q]? = some (CN, T, nf)) (hin : ∀ w ∈ u_ws CN T nf, w ∈ gw) {idx : Nat} {ref : String} {j : Nat} (hj : j < nf) (hlink : Cond.fieldLink own idx ref (T j).2.1 (T j).2.2.1 ∈ gw) (href : (T j).1 = ref) {k : Nat} (hk : k < N) (hq : (kd k).1 = q) (hq6 : q < 6) (hfin : (T j).2.2.2 = true) (hini : meth.name = "<init>") (hdecl : (T j).1 = own) (ty0 : Nat → FieldType) (hty : ∀ k, k < nf → parseFieldDescriptor (T k).2.2.1 = some (ty0 k)) (hnm : ∀ a, a < nf → ∀ b, b < nf → a ≠ b → (T a).2.1 ≠ (T b).2.1) (hlen : j < (isr q).length) {v : Value} {I2 : Mi} {F2 : Mr} (hnar : narrow (ty0 j) v = v) (hfit : fits (ty0 j) v = true) (hset : (fl (pb E) (I k) (F k) 0 (isr q)).set j v = fl (pb E) (I2 k) (F2 k) 0 (isr q)) (hoth : ∀ x, x ≠ k → I2 x = I x ∧ F2 x = F x) (d : decode cc pc = .ok (.putfield idx, 3)) (kk : G E N nL p l e R s m args below meth c cells slots Q I2 F2 (pc + 3) ls st) : G E N nL p l e R s m args below meth c cells slots Q I F pc ls (v :: rf E k :: st) := fun h hn H locs la hP hS hl => va_putF (D := E.1) (cl := vwCl) C.1 C.2.1 C.2.2.2.2.1 hin ty0 hty hnm C.2.2.2.1 C.2.2.2.2.2.1 hP (wsOf_D E N I F) hS k (by rw [wsOf_get hk, cellOf_obj hq hq6]) hc j hj (C.2.2.2.2.1 _ hlink) (fun x hx => by subst href; exact hx) hfin hini hdecl (hty j hj) hnar hfit (by rw [fl_len]; exact hlen) d (fun H1 locs1 hP1 hD1 hS1 => kk h hn H1 locs1 la (by rw [wsOf_set (I2 := I2) (F2 := F2) _ hk (by rw [cellOf_obj hq hq6, hset]) hoth] at hP1; exact hP1) hS1 hl)
theorem fl_up {b k j q : Nat} {I : Mi} {F : Mr} {v : Int32} (h : (isr q)[j]? = some false) : (fl b (I k) (F k) 0 (isr q)).set j (.int v) = fl b (up I k j v k) (F k) 0 (isr q) := by
  obtain ⟨h1, h2⟩ := List.getElem?_eq_some_iff.mp h
  refine fl_ext h1 ?_ (fun x hx => ⟨?_, rfl⟩)
  · simp [h, up]
  · simp only [up]; rw [if_neg (by omega)]
theorem fl_ur {b k j q : Nat} {I : Mi} {F : Mr} {t : Nat} (h : (isr q)[j]? = some true) : (fl b (I k) (F k) 0 (isr q)).set j (.ref (b + t)) = fl b (I k) (ur F k j (some t) k) 0 (isr q) := by
  obtain ⟨h1, h2⟩ := List.getElem?_eq_some_iff.mp h
  refine fl_ext h1 ?_ (fun x hx => ⟨rfl, ?_⟩)
  · simp [h, ur, rr, va_rf]
  · simp only [ur]; rw [if_neg (by omega)]
theorem g_iald (C : Cx E own cc nL p s m args meth c) {k n : Nat} (ha : ar N k 7 n) {x : Int32} (hx : vp_in x n) (d : decode cc pc = .ok (.iaload, 1)) (kk : G E N nL p l e R s m args below meth c cells slots Q I F (pc + 1) ls (.int (I k (ix x)) :: st)) : G E N nL p l e R s m args below meth c cells slots Q I F pc ls (.int x :: rf E k :: st) := fun h hn H locs la hP hS hl => va_iald (D := E.1) (cl := vwCl) C.1 C.2.1 C.2.2.2.2.2.1 hP k 0 (by rw [wsOf_get ha.2, cellOf_int ha.1]) rfl hx d (kk h hn H locs la hP hS hl)
theorem g_cald (C : Cx E own cc nL p s m args meth c) {k n : Nat} (ha : ar N k 6 n) {x : Int32} (hx : vp_in x n) (d : decode cc pc = .ok (.caload, 1)) (kk : G E N nL p l e R s m args below meth c cells slots Q I F (pc + 1) ls (.int (I k (ix x)) :: st)) : G E N nL p l e R s m args below meth c cells slots Q I F pc ls (.int x :: rf E k :: st) := fun h hn H locs la hP hS hl => va_cald (D := E.1) (cl := vwCl) C.1 C.2.1 C.2.2.2.2.2.1 hP k 1 (by rw [wsOf_get ha.2, cellOf_chr ha.1]) rfl hx d (kk h hn H locs la hP hS hl)
theorem g_aald (C : Cx E own cc nL p s m args meth c) {k n : Nat} (ha : ar N k 8 n) {x : Int32} (hx : vp_in x n) {t : Nat} (hF : F k (ix x) = some t) (d : decode cc pc = .ok (.aaload, 1)) (kk : G E N nL p l e R s m args below meth c cells slots Q I F (pc + 1) ls (rf E t :: st)) : G E N nL p l e R s m args below meth c cells slots Q I F pc ls (.int x :: rf E k :: st) := fun h hn H locs la hP hS hl => va_aldq (D := E.1) (cl := vwCl) C.1 C.2.1 C.2.2.2.2.2.1 hP k 2 (by rw [wsOf_get ha.2, cellOf_ref ha.1]) rfl hx d (by rw [hF]; exact kk h hn H locs la hP hS hl)
theorem g_iast (C : Cx E own cc nL p s m args meth c) {k n : Nat} (ha : ar N k 7 n) {x v : Int32} (hx : vp_in x n) (d : decode cc pc = .ok (.iastore, 1)) (kk : G E N nL p l e R s m args below meth c cells slots Q (up I k (ix x) v) F (pc + 1) ls st) : G E N nL p l e R s m args below meth c cells slots Q I F pc ls (.int v :: .int x :: rf E k :: st) := fun h hn H locs la hP hS hl => va_iast (D := E.1) (cl := vwCl) C.1 C.2.1 C.2.2.2.2.2.1 hP (wsOf_D E N I F) hS k 0 (by rw [wsOf_get ha.2, cellOf_int ha.1]) rfl hx d (fun H1 locs1 hP1 hD1 hS1 => kk h hn H1 locs1 la (by rw [wsOf_set (I2 := up I k (ix x) v) (F2 := F) _ ha.2 (by rw [cellOf_int ha.1, up_at]) (fun y hy => ⟨up_ne hy, rfl⟩)] at hP1; exact hP1) hS1 hl)
theorem g_cast (C : Cx E own cc nL p s m args meth c) {k n : Nat} (ha : ar N k 6 n) {x v : Int32} (hx : vp_in x n) (hv : vp_nar .char v = v) (d : decode cc pc = .ok (.castore, 1)) (kk : G E N nL p l e R s m args below meth c cells slots Q (up I k (ix x) v) F (pc + 1) ls st) : G E N nL p l e R s m args below meth c cells slots Q I F pc ls (.int v :: .int x :: rf E k :: st) := fun h hn H locs la hP hS hl => va_cast (D := E.1) (cl := vwCl) C.1 C.2.1 C.2.2.2.2.2.1 hP (wsOf_D E N I F) hS k 1 (by rw [wsOf_get ha.2, cellOf_chr ha.1]) rfl hx d (fun H1 locs1 hP1 hD1 hS1 => kk h hn H1 locs1 la (by rw [hv, wsOf_set (I2 := up I k (ix x) v) (F2 := F) _ ha.2 (by rw [cellOf_chr ha.1, up_at]) (fun y hy => ⟨up_ne hy, rfl⟩)] at hP1; exact hP1) hS1 hl)
theorem g_aast (C : Cx E own cc nL p s m args meth c) {k n t : Nat} (ha : ar N k 8 n) (ht : ob N t 0) {x : Int32} (hx : vp_in x n) (d : decode cc pc = .ok (.aastore, 1)) (kk : G E N nL p l e R s m args below meth c cells slots Q I (ur F k (ix x) (some t)) (pc + 1) ls st) : G E N nL p l e R s m args below meth c cells slots Q I F pc ls (rf E t :: .int x :: rf E k :: st) := fun h hn H locs la hP hS hl => va_astq (D := E.1) (cl := vwCl) C.1 C.2.1 C.2.2.2.2.2.1 hP (wsOf_D E N I F) hS k 2 t 0 (by rw [wsOf_get ha.2, cellOf_ref ha.1]) rfl (by rw [wsOf_get ht.2, cellOf_obj ht.1 (by decide)]) (r := (RX0, TX0, 19)) rfl hx d (fun H1 locs1 hP1 hD1 hS1 => kk h hn H1 locs1 la (by rw [wsOf_set (I2 := I) (F2 := ur F k (ix x) (some t)) _ ha.2 (by rw [cellOf_ref ha.1, ur_at]; congr 7; funext y; simp only [va_up]; split <;> rfl) (fun y hy => ⟨rfl, ur_ne hy⟩)] at hP1; exact hP1) hS1 hl)
/-! contracts and calls -/
abbrev MD : Type := MethodName × ByteArray × Nat × Option FieldType × Room
def QC (E : EE) (N : Nat) (P : Option Value → Mi → Mr → Prop) : Array Value → State → Outcome → State → Prop := fun _ st o t => (∃ (r : Option Value) (I : Mi) (F : Mr), o = .returned r ∧ P r I F ∧ va_P E.1 vwCl (wsOf E N I F) t.heap) ∧ va_F (fun q => pb E ≤ q) st t
abbrev ws_ (M : MD) : List Cond := .code M.1 M.2.1 M.2.2.1 M.2.2.2.1 :: gw
def PC (E : EE) (N : Nat) (I : Mi) (F : Mr) (av : List Value) : Array Value → State → Prop := va_Pc av (fun U => U.heap.size = pb E + N ∧ va_P E.1 vwCl (wsOf E N I F) U.heap ∧ va_K E.1 vwCl (ptys E) U ∧ NW U)
def Ct (l : Launch) (E : EE) (M : MD) (av : List Value) (N : Nat) (I : Mi) (F : Mr) (N2 : Nat) (P : Option Value → Mi → Mr → Prop) : Prop := Met l M.1 (ws_ M) M.2.2.2.2 (PC E N I F av) (QC E N2 P) M.2.2.2.2.cells M.2.2.2.2.slots (fun q => pb E ≤ q)
theorem PC_blind {av : List Value} : FrameBlind (PC E N I F av) := fun a U g mk q => by
  obtain ⟨q0, q1, qP, qK, qN⟩ := q
  exact ⟨q0, q1, qP, va_K.moved (u := U) (U := U.calling g mk a) (Vm.Alike.refl U.vm) qK, NW.same (s := U) (U := U.calling g mk a) rfl qN⟩
/-- behind a call -/
theorem g_run {N2 mc ms : Nat} {P : Option Value → Mi → Mr → Prop} {rest : List Value} {a : Array Value} (hmc : N2 = N + mc)
    (hr : ∀ (H : Heap) (locs : List Loc) (la : Array Slot), H.size = pb E + N → va_P E.1 vwCl (wsOf E N I F) H → va_S (fun q => pb E ≤ q) s.heap H locs → la.size = nL → va_Run p l e R s m args below meth c H locs cells slots mc ms (F0 m pc la st) rest (QC E N2 P a) (fun q => pb E ≤ q))
    (hN : 0 < N ∨ cells = 0)
    (kk : ∀ (r : Option Value) (I2 : Mi) (F2 : Mr), P r I2 F2 → G E N2 nL p l e R s m args below meth c (cells + mc) (slots + ms) Q I2 F2 (pc + 3) ls (r.toList ++ rest)) : G E N nL p l e R s m args below meth c cells slots Q I F pc ls st := by
  intro h hn H locs la hP hS hl
  refine W_sz (fun hz => ?_)
  have hsz : H.size = pb E + N := by
    have h1 : pb E + N ≤ H.size := by
      rcases Nat.eq_zero_or_pos N with h0 | h0
      · have h3 := hS.1
        rcases hN with h2 | h2
        · omega
        · omega
      · have h2 := (hP (N - 1) _ (wsOf_get (by omega))).lt
        simp only at h2
        omega
    omega
  intro T hT X
  obtain ⟨v, st₀, t, T', L, h0, X', hL, e1, e2, ⟨⟨r, I2, F2, hv, hp, hb⟩, hz2, hk⟩, st9⟩ := hr H locs la hsz hP hS hl.1 T hT X
  cases hv
  rw [h0] at hz2 hk
  obtain ⟨t2, a1, b1⟩ := kk v I2 F2 hp (by omega) hn T'.heap (locs ++ L) la (by rw [e1]; exact hb)
    ⟨Nat.le_trans hS.1 (by rw [e1]; exact hz2), fun q h1 h2 => by rw [e1, hk q (Nat.lt_of_lt_of_le h1 hS.1) h2]; exact hS.2.1 q h1 h2, fun q hq => by
      rcases List.mem_append.mp hq with h | h
      · exact hS.2.2 q h
      · exact hL q h⟩ hl T' rfl X'
  exact ⟨t2, st9 t2 a1, b1⟩
/-- what a call needs of the tables: the callee's code, its class, its parameters -/
def VM (M : MD) (n : Nat) : Prop := Cond.code M.1 M.2.1 M.2.2.1 M.2.2.2.1 ∈ gw ∧ Cond.initialized M.1.cls ∈ gw ∧ (M.1.cls ≠ "java/lang/invoke/MethodHandle" ∧ M.1.cls ≠ "java/lang/invoke/VarHandle" ∧ (parseMethodDescriptor M.1.desc).map (fun d => d.parameters.length) = some n)
abbrev Fits (M : MD) (R : Room) (cells slots : Nat) : Prop := (M.2.2.2.2.frames + 1 ≤ R.frames ∧ 8 + (M.2.2.1 + 11) + M.2.2.2.2.locals ≤ R.locals) ∧ (cells + M.2.2.2.2.cells ≤ R.cells ∧ slots + M.2.2.2.2.slots ≤ R.slots)
theorem ws_in {M : MD} {n : Nat} (h : VM M n) : GoodIn gw (ws_ M) := gw_in (fun w hw => by
  rcases List.mem_cons.mp hw with rfl | hw
  · exact h.1
  · exact hw)
theorem cb_of (C : Cx E own cc nL p s m args meth c) {M : MD} {n idx : Nat} (h : VM M n) (hl : Cond.methodLink own idx M.1 ∈ gw) (hR : M.2.2.2.2.frames + 1 ≤ R.frames ∧ 8 + (M.2.2.1 + 11) + M.2.2.2.2.locals ≤ R.locals) : CallB R s args own idx M.1 M.2.1 M.2.2.1 M.2.2.2.1 (ws_ M) M.2.2.2.2 M.2.2.2.2.cells M.2.2.2.2.slots n :=
  callB_of (Ts := gw) n C.2.2.2.2.1 (ws_in h) rfl rfl rfl (C.2.2.2.2.1 _ h.2.1) (C.2.2.2.2.1 _ hl) h.2.2 hR
theorem cn_of (C : Cx E own cc nL p s m args meth c) {M : MD} {n idx : Nat} {host : String} (h : VM M n) (hl : Cond.methodLinkNest own idx M.1 host ∈ nw) (hR : M.2.2.2.2.frames + 1 ≤ R.frames ∧ 8 + (M.2.2.1 + 11) + M.2.2.2.2.locals ≤ R.locals) : va_CN R s args own idx M.1 host M.2.1 M.2.2.1 M.2.2.2.1 (ws_ M) M.2.2.2.2 M.2.2.2.2.cells M.2.2.2.2.slots n :=
  va_cnB (Ts := gw) n C.2.2.2.2.1 (ws_in h) rfl rfl rfl (C.2.2.2.2.2.2.2 _ hl) (C.2.2.2.2.1 _ h.2.1) h.2.2 hR
theorem pre_of (C : Cx E own cc nL p s m args meth c) {H : Heap} (hsz : H.size = pb E + N) (hP : va_P E.1 vwCl (wsOf E N I F) H) (av : List Value) : ∀ U : State, U.heap = H → s.WarmedH U.vm → PC E N I F av av.toArray U := fun U hU hW => ⟨rfl, by rw [hU]; exact hsz, by rw [hU]; exact hP, va_K.moved hW.alike C.2.2.2.2.2.1, NW.warm hW C.2.2.2.2.2.2.2⟩
theorem pk_recv (C : Cx E own cc nL p s m args meth c) {H : Heap} (hP : va_P E.1 vwCl (wsOf E N I F) H) {k q nf : Nat} {CN : String} {T : u_T} (hc : vwCl[q]? = some (CN, T, nf)) (hq6 : q < 6) (hob : ob N k q) : ∃ cell : Cell, H[pb E + k]? = some cell ∧ cell.vm.isStatics = false ∧ s.vm.findClass CN = some cell.cls := va_recv (q0 := k) (fs := fl (pb E) (I k) (F k) 0 (isr q)) (ci := q) C.2.2.2.2.2.1 hP hc (by rw [wsOf_get hob.2, cellOf_obj hob.1 hq6])

theorem g_callV (C : Cx E own cc nL p s m args meth c) {M : MD} {idx n k : Nat} {As rest : List Value} {N2 : Nat} {P : Option Value → Mi → Mr → Prop} (hM : Ct l E M (rf E k :: As) N I F N2 P) (hl : Cond.methodLink own idx M.1 ∈ gw) (hv : VM M n) {q nf : Nat} {CN : String} {T : u_T} (hc : vwCl[q]? = some (CN, T, nf)) (hq6 : q < 6) (hcn : M.1.cls = CN) (hob : ob N k q) (hinst : Cond.instanceMethod M.1 ∈ gw) (hsel : Cond.selects CN M.1 M.1 ∈ gw) (hfit : Fits M R cells slots) (hmc : N2 = N + M.2.2.2.2.cells) (hst : st = As.reverse ++ rf E k :: rest) (hlen : As.length = n) (hcat : (rest.map fun v => v.category).sum ≤ 8) (hN : 0 < N ∨ cells = 0) (d : decode cc pc = .ok (.invokevirtual idx, 3)) (kk : ∀ (r : Option Value) (I2 : Mi) (F2 : Mr), P r I2 F2 → G E N2 nL p l e R s m args below meth c (cells + M.2.2.2.2.cells) (slots + M.2.2.2.2.slots) Q I2 F2 (pc + 3) ls (r.toList ++ rest)) : G E N nL p l e R s m args below meth c cells slots Q I F pc ls st := g_run (a := (Value.ref (pb E + k) :: As).toArray) hmc (fun H locs la hz hP hS hsz => va_runV (C := CN) ⟨C.1, C.2.1, C.2.2.1, C.2.2.2.1, C.2.2.2.2.1⟩ hM ⟨cb_of C hv hl hfit.1, C.2.2.2.2.1 _ hinst, C.2.2.2.2.1 _ hsel⟩ ⟨PC_blind, pk_recv C hP hc hq6 hob, pre_of C hz hP _⟩ rfl hlen hsz (by subst hst; rfl) (lv_room hcat) d hfit.2) hN kk
theorem g_callVN {host : String} (C : Cx E own cc nL p s m args meth c) {M : MD} {idx n k : Nat} {As rest : List Value} {N2 : Nat} {P : Option Value → Mi → Mr → Prop} (hM : Ct l E M (rf E k :: As) N I F N2 P) (hl : Cond.methodLinkNest own idx M.1 host ∈ nw) (hv : VM M n) {q nf : Nat} {CN : String} {T : u_T} (hc : vwCl[q]? = some (CN, T, nf)) (hq6 : q < 6) (hcn : M.1.cls = CN) (hob : ob N k q) (hinst : Cond.instanceMethod M.1 ∈ gw) (hsel : Cond.selects CN M.1 M.1 ∈ gw) (hfit : Fits M R cells slots) (hmc : N2 = N + M.2.2.2.2.cells) (hst : st = As.reverse ++ rf E k :: rest) (hlen : As.length = n) (hcat : (rest.map fun v => v.category).sum ≤ 8) (hN : 0 < N ∨ cells = 0) (d : decode cc pc = .ok (.invokevirtual idx, 3)) (kk : ∀ (r : Option Value) (I2 : Mi) (F2 : Mr), P r I2 F2 → G E N2 nL p l e R s m args below meth c (cells + M.2.2.2.2.cells) (slots + M.2.2.2.2.slots) Q I2 F2 (pc + 3) ls (r.toList ++ rest)) : G E N nL p l e R s m args below meth c cells slots Q I F pc ls st := g_run (a := (Value.ref (pb E + k) :: As).toArray) hmc (fun H locs la hz hP hS hsz => va_runVN (C := CN) ⟨C.1, C.2.1, C.2.2.1, C.2.2.2.1, C.2.2.2.2.1⟩ hM ⟨cn_of C hv hl hfit.1, C.2.2.2.2.1 _ hinst, C.2.2.2.2.1 _ hsel⟩ ⟨PC_blind, pk_recv C hP hc hq6 hob, pre_of C hz hP _⟩ rfl hlen hsz (by subst hst; rfl) (lv_room hcat) d hfit.2) hN kk
theorem g_callS (C : Cx E own cc nL p s m args meth c) {M : MD} {idx n : Nat} {As rest : List Value} {N2 : Nat} {P : Option Value → Mi → Mr → Prop} (hM : Ct l E M (As) N I F N2 P) (hl : Cond.methodLink own idx M.1 ∈ gw) (hv : VM M n) (hstat : Cond.static M.1 ∈ gw) (hfit : Fits M R cells slots) (hmc : N2 = N + M.2.2.2.2.cells) (hst : st = As.reverse ++ rest) (hlen : As.length = n) (hcat : (rest.map fun v => v.category).sum ≤ 8) (hN : 0 < N ∨ cells = 0) (d : decode cc pc = .ok (.invokestatic idx, 3)) (kk : ∀ (r : Option Value) (I2 : Mi) (F2 : Mr), P r I2 F2 → G E N2 nL p l e R s m args below meth c (cells + M.2.2.2.2.cells) (slots + M.2.2.2.2.slots) Q I2 F2 (pc + 3) ls (r.toList ++ rest)) : G E N nL p l e R s m args below meth c cells slots Q I F pc ls st := g_run (a := As.toArray) hmc (fun H locs la hz hP hS hsz => va_runS ⟨C.1, C.2.1, C.2.2.1, C.2.2.2.1, C.2.2.2.2.1⟩ hM ⟨cb_of C hv hl hfit.1, C.2.2.2.2.1 _ hstat⟩ ⟨PC_blind, pre_of C hz hP _⟩ rfl hlen hsz (by subst hst; rfl) (lv_room hcat) d hfit.2) hN kk
theorem g_callSN {host : String} (C : Cx E own cc nL p s m args meth c) {M : MD} {idx n : Nat} {As rest : List Value} {N2 : Nat} {P : Option Value → Mi → Mr → Prop} (hM : Ct l E M (As) N I F N2 P) (hl : Cond.methodLinkNest own idx M.1 host ∈ nw) (hv : VM M n) (hstat : Cond.static M.1 ∈ gw) (hfit : Fits M R cells slots) (hmc : N2 = N + M.2.2.2.2.cells) (hst : st = As.reverse ++ rest) (hlen : As.length = n) (hcat : (rest.map fun v => v.category).sum ≤ 8) (hN : 0 < N ∨ cells = 0) (d : decode cc pc = .ok (.invokestatic idx, 3)) (kk : ∀ (r : Option Value) (I2 : Mi) (F2 : Mr), P r I2 F2 → G E N2 nL p l e R s m args below meth c (cells + M.2.2.2.2.cells) (slots + M.2.2.2.2.slots) Q I2 F2 (pc + 3) ls (r.toList ++ rest)) : G E N nL p l e R s m args below meth c cells slots Q I F pc ls st := g_run (a := As.toArray) hmc (fun H locs la hz hP hS hsz => va_runSN ⟨C.1, C.2.1, C.2.2.1, C.2.2.2.1, C.2.2.2.2.1⟩ hM ⟨cn_of C hv hl hfit.1, C.2.2.2.2.1 _ hstat, trivial⟩ ⟨PC_blind, pre_of C hz hP _⟩ rfl hlen hsz (by subst hst; rfl) (lv_room hcat) d hfit.2) hN kk
theorem g_callI (C : Cx E own cc nL p s m args meth c) {M : MD} {idx n k : Nat} {As rest : List Value} {N2 : Nat} {P : Option Value → Mi → Mr → Prop} (hM : Ct l E M (rf E k :: As) N I F N2 P) (hl : Cond.methodLink own idx M.1 ∈ gw) (hv : VM M n) (hret : M.2.2.2.1 = none) (hname : M.1.name = "<init>") (hinst : Cond.instanceMethod M.1 ∈ gw) (hfit : Fits M R cells slots) (hmc : N2 = N + M.2.2.2.2.cells) (hst : st = As.reverse ++ rf E k :: rest) (hlen : As.length = n) (hcat : (rest.map fun v => v.category).sum ≤ 8) (hN : 0 < N ∨ cells = 0) (d : decode cc pc = .ok (.invokespecial idx, 3)) (kk : ∀ (r : Option Value) (I2 : Mi) (F2 : Mr), P r I2 F2 → G E N2 nL p l e R s m args below meth c (cells + M.2.2.2.2.cells) (slots + M.2.2.2.2.slots) Q I2 F2 (pc + 3) ls (r.toList ++ rest)) : G E N nL p l e R s m args below meth c cells slots Q I F pc ls st := g_run (a := (Value.ref (pb E + k) :: As).toArray) hmc (fun H locs la hz hP hS hsz => va_runI ⟨C.1, C.2.1, C.2.2.1, C.2.2.2.1, C.2.2.2.2.1⟩ hM ⟨hret ▸ cb_of C hv hl hfit.1, hname, C.2.2.2.2.1 _ hinst⟩ ⟨PC_blind, pre_of C hz hP _⟩ rfl hlen hsz (by subst hst; rfl) (lv_room hcat) d hfit.2) hN kk
theorem g_callIN {host : String} (C : Cx E own cc nL p s m args meth c) {M : MD} {idx n k : Nat} {As rest : List Value} {N2 : Nat} {P : Option Value → Mi → Mr → Prop} (hM : Ct l E M (rf E k :: As) N I F N2 P) (hl : Cond.methodLinkNest own idx M.1 host ∈ nw) (hv : VM M n) (hret : M.2.2.2.1 = none) (hname : M.1.name = "<init>") (hinst : Cond.instanceMethod M.1 ∈ gw) (hfit : Fits M R cells slots) (hmc : N2 = N + M.2.2.2.2.cells) (hst : st = As.reverse ++ rf E k :: rest) (hlen : As.length = n) (hcat : (rest.map fun v => v.category).sum ≤ 8) (hN : 0 < N ∨ cells = 0) (d : decode cc pc = .ok (.invokespecial idx, 3)) (kk : ∀ (r : Option Value) (I2 : Mi) (F2 : Mr), P r I2 F2 → G E N2 nL p l e R s m args below meth c (cells + M.2.2.2.2.cells) (slots + M.2.2.2.2.slots) Q I2 F2 (pc + 3) ls (r.toList ++ rest)) : G E N nL p l e R s m args below meth c cells slots Q I F pc ls st := g_run (a := (Value.ref (pb E + k) :: As).toArray) hmc (fun H locs la hz hP hS hsz => va_runIN ⟨C.1, C.2.1, C.2.2.1, C.2.2.2.1, C.2.2.2.2.1⟩ hM ⟨hret ▸ cn_of C hv hl hfit.1, hname, C.2.2.2.2.1 _ hinst⟩ ⟨PC_blind, pre_of C hz hP _⟩ rfl hlen hsz (by subst hst; rfl) (lv_room hcat) d hfit.2) hN kk
theorem g_iret (C : Cx E own cc nL p s m args meth c) {P : Option Value → Mi → Mr → Prop} {v : Int32} (hr : meth.sig.returnType = some .int) (d : decode cc pc = .ok (.ireturn, 1)) (hp : P (some (.int v)) I F) : G E N nL p l e R s m args below meth c cells slots (MQ below (QC E N P) args s cells slots (fun q => pb E ≤ q)) I F pc ls  [.int v] := fun h hn H locs la hP hS hl => W.iret C.1 C.2.1 hr (fun t ht hW => ⟨⟨_, I, F, rfl, hp, by rw [ht]; exact hP⟩, hS.F ht⟩) hS.2.2 d C.2.2.2.2.2.2.1
theorem g_zret (C : Cx E own cc nL p s m args meth c) {P : Option Value → Mi → Mr → Prop} {v : Int32} (hr : meth.sig.returnType = some .boolean) (hv : v = 0 ∨ v = 1) (d : decode cc pc = .ok (.ireturn, 1)) (hp : P (some (.int v)) I F) : G E N nL p l e R s m args below meth c cells slots (MQ below (QC E N P) args s cells slots (fun q => pb E ≤ q)) I F pc ls  [.int v] := fun h hn H locs la hP hS hl => W.zret C.1 C.2.1 hr (by rcases hv with rfl | rfl <;> rfl) (fun t ht hW => ⟨⟨_, I, F, rfl, hp, by rw [ht]; exact hP⟩, hS.F ht⟩) hS.2.2 d C.2.2.2.2.2.2.1
theorem g_vret (C : Cx E own cc nL p s m args meth c) {P : Option Value → Mi → Mr → Prop} (hr : meth.sig.returnType = none) (d : decode cc pc = .ok (.return_, 1)) (hp : P none I F) : G E N nL p l e R s m args below meth c cells slots (MQ below (QC E N P) args s cells slots (fun q => pb E ≤ q)) I F pc ls  [] := fun h hn H locs la hP hS hl => W.vret C.1 C.2.1 hr (fun t ht hW => ⟨⟨_, I, F, rfl, hp, by rw [ht]; exact hP⟩, hS.F ht⟩) hS.2.2 d C.2.2.2.2.2.2.1
theorem g_aret (C : Cx E own cc nL p s m args meth c) {P : Option Value → Mi → Mr → Prop} {v : Value} {nm : String} (hr : meth.sig.returnType = some (.object nm)) (hv : v = .null ∨ ∃ a, v = .ref a) (d : decode cc pc = .ok (.areturn, 1)) (hp : P (some v) I F) : G E N nL p l e R s m args below meth c cells slots (MQ below (QC E N P) args s cells slots (fun q => pb E ≤ q)) I F pc ls  [v] := fun h hn H locs la hP hS hl => W.aret C.1 C.2.1 hr (Or.inl ⟨_, rfl⟩) hv (fun t ht hW => ⟨⟨_, I, F, rfl, hp, by rw [ht]; exact hP⟩, hS.F ht⟩) hS.2.2 d C.2.2.2.2.2.2.1
end PK
/-- the locals at a method's entry -/
def la0 : List Value → List (Option Value)
  | [] => []
  | v :: t => if v.category = 2 then some v :: none :: la0 t else some v :: la0 t
theorem la0_lo : ∀ (vs : List Value) (i : Nat), lv_args i vs = lo i (la0 vs)
  | [], i => rfl
  | v :: t, i => by
    by_cases h : v.category = 2
    · simp [lv_args, la0, h, lo, la0_lo t (i + 2)]
    · simp [lv_args, la0, h, lo, la0_lo t (i + 1)]
theorem lo_rep (n : Nat) : ∀ i : Nat, lo i (List.replicate n none) = [] := by
  induction n with
  | zero => intro i; rfl
  | succ n ih => intro i; rw [List.replicate_succ]; exact ih (i + 1)
theorem lo_app : ∀ (a b : List (Option Value)) (i : Nat), lo i (a ++ b) = lo i a ++ lo (i + a.length) b
  | [], b, i => by simp [lo]
  | none :: t, b, i => by simp [lo, lo_app t b (i + 1)]; congr 1; omega
  | some v :: t, b, i => by simp [lo, lo_app t b (i + 1)]; congr 1; omega
theorem la0_len : ∀ vs : List Value, (lg_sl vs).length = (la0 vs).length
  | [] => rfl
  | v :: t => by
    have := la0_len t
    by_cases h : v.category = 2
    · simp [lg_sl, la0, h] at this ⊢; omega
    · simp [lg_sl, la0, h] at this ⊢; omega
set_option maxHeartbeats 1000000 in
/-- a contract out of a walk from the entry -/
theorem Ct_of {l : Launch} {E : EE} {M : MD} {av : List Value} {N : Nat} {I : Mi} {F : Mr} {N2 : Nat} {P : Option Value → Mi → Mr → Prop} (hpl : plainName M.1.cls = true) (hmc : N2 = N + M.2.2.2.2.cells) (hle : (la0 av).length ≤ M.2.2.1)
    (body : ∀ (p : Program) (e : Env) (s : State) (m : MethodId) (args : Array Value) (below : List Frame) (meth : Method) (c : Code), Cx E M.1.cls M.2.1 M.2.2.1 p s m args meth c → meth.sig.returnType = M.2.2.2.1 → meth.name = M.1.name → G E N M.2.2.1 p l e M.2.2.2.2 s m args below meth c 0 0 (MQ below (QC E N2 P) args s M.2.2.2.2.cells M.2.2.2.2.slots (fun q => pb E ≤ q)) I F 0 (la0 av ++ List.replicate (M.2.2.1 - (la0 av).length) none) []) : Ct l E M av N I F N2 P := by
  refine Met.ofW (cc := M.2.1) (maxL := M.2.2.1) (ret := M.2.2.2.1) hpl rfl ?_
  intro p e s m args below meth c s₁ B hml hv
  obtain ⟨rfl, hsz, hP, hK, hNW⟩ := hv
  have hts := atoms_spec (ws := ws_ M) B.pre
  have hown : s.vm.findClass M.1.cls = some m.cls := findClass_of_methodNamed B.named
  have hl := lv_entry av (n := M.2.2.1) (by rw [la0_len]; exact hle)
  rw [lg_entry_eq]
  rw [la0_lo, show lo 0 (la0 av) = lo 0 (la0 av ++ List.replicate (M.2.2.1 - (la0 av).length) none) by rw [lo_app, lo_rep, List.append_nil]] at hl
  exact body p e s m _ below meth c ⟨B.exec, B.bytes, hml, hown, fun w hw => hts w (List.mem_cons_of_mem _ hw), hK, B.notSynchronized, hNW⟩ B.returns (name_of_methodNamed B.named B.method).1 (by omega) (by simp; omega) s.heap [] _ hP va_S.rf hl
end
section
theorem inX0 : ∀ w ∈ u_ws RX0 TX0 19, w ∈ gw := by decide +kernel
theorem inX1 : ∀ w ∈ u_ws RX1 TX1 7, w ∈ gw := by decide +kernel
theorem inX2 : ∀ w ∈ u_ws RX2 TX2 2, w ∈ gw := by decide +kernel
theorem inX3 : ∀ w ∈ u_ws RX3 TX3 2, w ∈ gw := by decide +kernel
theorem inX4 : ∀ w ∈ u_ws RX4 TX4 8, w ∈ gw := by decide +kernel
theorem inX5 : ∀ w ∈ u_ws RX5 TX5 16, w ∈ gw := by decide +kernel
abbrev mJ6_bitCount_0f7a4 : MD := (yJ6_bitCount_0f7a4, cJ6_bitCount_0f7a4, 1, (some .int), { frames := 0, cells := 0, slots := 0, locals := 0 })
theorem vJ6_bitCount_0f7a4 : VM mJ6_bitCount_0f7a4 1 := ⟨gw_of 408 (by decide +kernel) (by decide +kernel), gw_of 89 (by decide +kernel) (by decide +kernel), by decide +kernel, by decide +kernel, by decide +kernel⟩
theorem vtJ6_bitCount_0f7a4 : Cond.static yJ6_bitCount_0f7a4 ∈ gw := gw_of 407 (by decide +kernel) (by decide +kernel)
abbrev mX0_addIsland : MD := (yX0_addIsland, cX0_addIsland, 7, none, { frames := 1, cells := 0, slots := 0, locals := 20 })
theorem vX0_addIsland : VM mX0_addIsland 5 := ⟨gw_of 318 (by decide +kernel) (by decide +kernel), gw_of 84 (by decide +kernel) (by decide +kernel), by decide +kernel, by decide +kernel, by decide +kernel⟩
theorem viX0_addIsland : Cond.instanceMethod yX0_addIsland ∈ gw := gw_of 317 (by decide +kernel) (by decide +kernel)
theorem vsX0_addIsland : Cond.selects RX0 yX0_addIsland yX0_addIsland ∈ gw := gw_of 8 (by decide +kernel) (by decide +kernel)
abbrev mX0_areAllAwake : MD := (yX0_areAllAwake, cX0_areAllAwake, 1, (some .boolean), { frames := 1, cells := 0, slots := 0, locals := 23 })
theorem vX0_areAllAwake : VM mX0_areAllAwake 0 := ⟨gw_of 530 (by decide +kernel) (by decide +kernel), gw_of 84 (by decide +kernel) (by decide +kernel), by decide +kernel, by decide +kernel, by decide +kernel⟩
theorem viX0_areAllAwake : Cond.instanceMethod yX0_areAllAwake ∈ gw := gw_of 529 (by decide +kernel) (by decide +kernel)
theorem vsX0_areAllAwake : Cond.selects RX0 yX0_areAllAwake yX0_areAllAwake ∈ gw := gw_of 44 (by decide +kernel) (by decide +kernel)
abbrev mX0_askForSleepers : MD := (yX0_askForSleepers, cX0_askForSleepers, 3, none, { frames := 2, cells := 0, slots := 0, locals := 41 })
theorem vX0_askForSleepers : VM mX0_askForSleepers 0 := ⟨gw_of 472 (by decide +kernel) (by decide +kernel), gw_of 84 (by decide +kernel) (by decide +kernel), by decide +kernel, by decide +kernel, by decide +kernel⟩
theorem viX0_askForSleepers : Cond.instanceMethod yX0_askForSleepers ∈ gw := gw_of 471 (by decide +kernel) (by decide +kernel)
theorem vsX0_askForSleepers : Cond.selects RX0 yX0_askForSleepers yX0_askForSleepers ∈ gw := gw_of 36 (by decide +kernel) (by decide +kernel)
abbrev mX0_beginRising : MD := (yX0_beginRising, cX0_beginRising, 5, none, { frames := 1, cells := 0, slots := 0, locals := 22 })
theorem vX0_beginRising : VM mX0_beginRising 0 := ⟨gw_of 477 (by decide +kernel) (by decide +kernel), gw_of 84 (by decide +kernel) (by decide +kernel), by decide +kernel, by decide +kernel, by decide +kernel⟩
theorem viX0_beginRising : Cond.instanceMethod yX0_beginRising ∈ gw := gw_of 476 (by decide +kernel) (by decide +kernel)
theorem vsX0_beginRising : Cond.selects RX0 yX0_beginRising yX0_beginRising ∈ gw := gw_of 37 (by decide +kernel) (by decide +kernel)
abbrev mX0_clear : MD := (yX0_clear, cX0_clear, 2, none, { frames := 0, cells := 0, slots := 0, locals := 0 })
theorem vX0_clear : VM mX0_clear 0 := ⟨gw_of 108 (by decide +kernel) (by decide +kernel), gw_of 84 (by decide +kernel) (by decide +kernel), by decide +kernel, by decide +kernel, by decide +kernel⟩
theorem viX0_clear : Cond.instanceMethod yX0_clear ∈ gw := gw_of 107 (by decide +kernel) (by decide +kernel)
theorem vsX0_clear : Cond.selects RX0 yX0_clear yX0_clear ∈ gw := gw_of 0 (by decide +kernel) (by decide +kernel)
abbrev mX0_copyFrom : MD := (yX0_copyFrom, cX0_copyFrom, 3, none, { frames := 0, cells := 0, slots := 0, locals := 0 })
theorem vX0_copyFrom : VM mX0_copyFrom 1 := ⟨gw_of 306 (by decide +kernel) (by decide +kernel), gw_of 84 (by decide +kernel) (by decide +kernel), by decide +kernel, by decide +kernel, by decide +kernel⟩
theorem viX0_copyFrom : Cond.instanceMethod yX0_copyFrom ∈ gw := gw_of 305 (by decide +kernel) (by decide +kernel)
theorem vsX0_copyFrom : Cond.selects RX0 yX0_copyFrom yX0_copyFrom ∈ gw := gw_of 6 (by decide +kernel) (by decide +kernel)
abbrev mX0_endFalling : MD := (yX0_endFalling, cX0_endFalling, 2, none, { frames := 2, cells := 0, slots := 0, locals := 42 })
theorem vX0_endFalling : VM mX0_endFalling 0 := ⟨gw_of 456 (by decide +kernel) (by decide +kernel), gw_of 84 (by decide +kernel) (by decide +kernel), by decide +kernel, by decide +kernel, by decide +kernel⟩
theorem viX0_endFalling : Cond.instanceMethod yX0_endFalling ∈ gw := gw_of 455 (by decide +kernel) (by decide +kernel)
theorem vsX0_endFalling : Cond.selects RX0 yX0_endFalling yX0_endFalling ∈ gw := gw_of 32 (by decide +kernel) (by decide +kernel)
abbrev mX0_endRising : MD := (yX0_endRising, cX0_endRising, 2, none, { frames := 1, cells := 0, slots := 0, locals := 21 })
theorem vX0_endRising : VM mX0_endRising 1 := ⟨gw_of 468 (by decide +kernel) (by decide +kernel), gw_of 84 (by decide +kernel) (by decide +kernel), by decide +kernel, by decide +kernel, by decide +kernel⟩
theorem viX0_endRising : Cond.instanceMethod yX0_endRising ∈ gw := gw_of 467 (by decide +kernel) (by decide +kernel)
theorem vsX0_endRising : Cond.selects RX0 yX0_endRising yX0_endRising ∈ gw := gw_of 35 (by decide +kernel) (by decide +kernel)
abbrev mX0_goOnRising : MD := (yX0_goOnRising, cX0_goOnRising, 2, none, { frames := 2, cells := 0, slots := 0, locals := 42 })
theorem vX0_goOnRising : VM mX0_goOnRising 0 := ⟨gw_of 464 (by decide +kernel) (by decide +kernel), gw_of 84 (by decide +kernel) (by decide +kernel), by decide +kernel, by decide +kernel, by decide +kernel⟩
theorem viX0_goOnRising : Cond.instanceMethod yX0_goOnRising ∈ gw := gw_of 463 (by decide +kernel) (by decide +kernel)
theorem vsX0_goOnRising : Cond.selects RX0 yX0_goOnRising yX0_goOnRising ∈ gw := gw_of 34 (by decide +kernel) (by decide +kernel)
abbrev mX0_has : MD := (yX0_has, cX0_has, 2, (some .boolean), { frames := 1, cells := 0, slots := 0, locals := 20 })
theorem vX0_has : VM mX0_has 1 := ⟨gw_of 385 (by decide +kernel) (by decide +kernel), gw_of 84 (by decide +kernel) (by decide +kernel), by decide +kernel, by decide +kernel, by decide +kernel⟩
theorem viX0_has : Cond.instanceMethod yX0_has ∈ gw := gw_of 384 (by decide +kernel) (by decide +kernel)
theorem vsX0_has : Cond.selects RX0 yX0_has yX0_has ∈ gw := gw_of 21 (by decide +kernel) (by decide +kernel)
abbrev mX0_hasAllThatAreRead : MD := (yX0_hasAllThatAreRead, cX0_hasAllThatAreRead, 3, (some .boolean), { frames := 0, cells := 0, slots := 0, locals := 0 })
theorem vX0_hasAllThatAreRead : VM mX0_hasAllThatAreRead 0 := ⟨gw_of 376 (by decide +kernel) (by decide +kernel), gw_of 84 (by decide +kernel) (by decide +kernel), by decide +kernel, by decide +kernel, by decide +kernel⟩
theorem viX0_hasAllThatAreRead : Cond.instanceMethod yX0_hasAllThatAreRead ∈ gw := gw_of 375 (by decide +kernel) (by decide +kernel)
theorem vsX0_hasAllThatAreRead : Cond.selects RX0 yX0_hasAllThatAreRead yX0_hasAllThatAreRead ∈ gw := gw_of 20 (by decide +kernel) (by decide +kernel)
abbrev mX0_init : MD := (yX0_init, cX0_init, 1, none, { frames := 1, cells := 10, slots := 80, locals := 22 })
theorem vX0_init : VM mX0_init 0 := ⟨gw_of 103 (by decide +kernel) (by decide +kernel), gw_of 84 (by decide +kernel) (by decide +kernel), by decide +kernel, by decide +kernel, by decide +kernel⟩
theorem viX0_init : Cond.instanceMethod yX0_init ∈ gw := gw_of 102 (by decide +kernel) (by decide +kernel)
abbrev mX0_isAtRest : MD := (yX0_isAtRest, cX0_isAtRest, 2, (some .boolean), { frames := 0, cells := 0, slots := 0, locals := 0 })
theorem vX0_isAtRest : VM mX0_isAtRest 0 := ⟨gw_of 535 (by decide +kernel) (by decide +kernel), gw_of 84 (by decide +kernel) (by decide +kernel), by decide +kernel, by decide +kernel, by decide +kernel⟩
theorem viX0_isAtRest : Cond.instanceMethod yX0_isAtRest ∈ gw := gw_of 534 (by decide +kernel) (by decide +kernel)
theorem vsX0_isAtRest : Cond.selects RX0 yX0_isAtRest yX0_isAtRest ∈ gw := gw_of 45 (by decide +kernel) (by decide +kernel)
abbrev mX0_isHeard : MD := (yX0_isHeard, cX0_isHeard, 2, (some .boolean), { frames := 1, cells := 0, slots := 0, locals := 20 })
theorem vX0_isHeard : VM mX0_isHeard 1 := ⟨gw_of 443 (by decide +kernel) (by decide +kernel), gw_of 84 (by decide +kernel) (by decide +kernel), by decide +kernel, by decide +kernel, by decide +kernel⟩
theorem viX0_isHeard : Cond.instanceMethod yX0_isHeard ∈ gw := gw_of 442 (by decide +kernel) (by decide +kernel)
theorem vsX0_isHeard : Cond.selects RX0 yX0_isHeard yX0_isHeard ∈ gw := gw_of 29 (by decide +kernel) (by decide +kernel)
abbrev mX0_isPlace : MD := (yX0_isPlace, cX0_isPlace, 1, (some .boolean), { frames := 0, cells := 0, slots := 0, locals := 0 })
theorem vX0_isPlace : VM mX0_isPlace 1 := ⟨gw_of 321 (by decide +kernel) (by decide +kernel), gw_of 84 (by decide +kernel) (by decide +kernel), by decide +kernel, by decide +kernel, by decide +kernel⟩
theorem vtX0_isPlace : Cond.static yX0_isPlace ∈ gw := gw_of 320 (by decide +kernel) (by decide +kernel)
abbrev mX0_islandInQueue : MD := (yX0_islandInQueue, cX0_islandInQueue, 2, (some .int), { frames := 1, cells := 0, slots := 0, locals := 20 })
theorem vX0_islandInQueue : VM mX0_islandInQueue 1 := ⟨gw_of 506 (by decide +kernel) (by decide +kernel), gw_of 84 (by decide +kernel) (by decide +kernel), by decide +kernel, by decide +kernel, by decide +kernel⟩
theorem viX0_islandInQueue : Cond.instanceMethod yX0_islandInQueue ∈ gw := gw_of 505 (by decide +kernel) (by decide +kernel)
theorem vsX0_islandInQueue : Cond.selects RX0 yX0_islandInQueue yX0_islandInQueue ∈ gw := gw_of 40 (by decide +kernel) (by decide +kernel)
abbrev mX0_islandsThatAre : MD := (yX0_islandsThatAre, cX0_islandsThatAre, 4, (some .int), { frames := 0, cells := 0, slots := 0, locals := 0 })
theorem vX0_islandsThatAre : VM mX0_islandsThatAre 1 := ⟨gw_of 405 (by decide +kernel) (by decide +kernel), gw_of 84 (by decide +kernel) (by decide +kernel), by decide +kernel, by decide +kernel, by decide +kernel⟩
theorem viX0_islandsThatAre : Cond.instanceMethod yX0_islandsThatAre ∈ gw := gw_of 404 (by decide +kernel) (by decide +kernel)
theorem vsX0_islandsThatAre : Cond.selects RX0 yX0_islandsThatAre yX0_islandsThatAre ∈ gw := gw_of 23 (by decide +kernel) (by decide +kernel)
abbrev mX0_keepOrLose : MD := (yX0_keepOrLose, cX0_keepOrLose, 2, none, { frames := 1, cells := 0, slots := 0, locals := 21 })
theorem vX0_keepOrLose : VM mX0_keepOrLose 1 := ⟨gw_of 460 (by decide +kernel) (by decide +kernel), gw_of 84 (by decide +kernel) (by decide +kernel), by decide +kernel, by decide +kernel, by decide +kernel⟩
theorem viX0_keepOrLose : Cond.instanceMethod yX0_keepOrLose ∈ gw := gw_of 459 (by decide +kernel) (by decide +kernel)
theorem vsX0_keepOrLose : Cond.selects RX0 yX0_keepOrLose yX0_keepOrLose ∈ gw := gw_of 33 (by decide +kernel) (by decide +kernel)
abbrev mX0_letPass : MD := (yX0_letPass, cX0_letPass, 3, none, { frames := 4, cells := 0, slots := 0, locals := 84 })
theorem vX0_letPass : VM mX0_letPass 1 := ⟨gw_of 431 (by decide +kernel) (by decide +kernel), gw_of 84 (by decide +kernel) (by decide +kernel), by decide +kernel, by decide +kernel, by decide +kernel⟩
theorem viX0_letPass : Cond.instanceMethod yX0_letPass ∈ gw := gw_of 430 (by decide +kernel) (by decide +kernel)
theorem vsX0_letPass : Cond.selects RX0 yX0_letPass yX0_letPass ∈ gw := gw_of 26 (by decide +kernel) (by decide +kernel)
abbrev mX0_moveOn : MD := (yX0_moveOn, cX0_moveOn, 1, none, { frames := 3, cells := 0, slots := 0, locals := 63 })
theorem vX0_moveOn : VM mX0_moveOn 0 := ⟨gw_of 452 (by decide +kernel) (by decide +kernel), gw_of 84 (by decide +kernel) (by decide +kernel), by decide +kernel, by decide +kernel, by decide +kernel⟩
theorem viX0_moveOn : Cond.instanceMethod yX0_moveOn ∈ gw := gw_of 451 (by decide +kernel) (by decide +kernel)
theorem vsX0_moveOn : Cond.selects RX0 yX0_moveOn yX0_moveOn ∈ gw := gw_of 31 (by decide +kernel) (by decide +kernel)
abbrev mX0_noiseSoFar : MD := (yX0_noiseSoFar, cX0_noiseSoFar, 3, (some .int), { frames := 0, cells := 0, slots := 0, locals := 0 })
theorem vX0_noiseSoFar : VM mX0_noiseSoFar 0 := ⟨gw_of 427 (by decide +kernel) (by decide +kernel), gw_of 84 (by decide +kernel) (by decide +kernel), by decide +kernel, by decide +kernel, by decide +kernel⟩
theorem viX0_noiseSoFar : Cond.instanceMethod yX0_noiseSoFar ∈ gw := gw_of 426 (by decide +kernel) (by decide +kernel)
theorem vsX0_noiseSoFar : Cond.selects RX0 yX0_noiseSoFar yX0_noiseSoFar ∈ gw := gw_of 25 (by decide +kernel) (by decide +kernel)
abbrev mX0_orderSleepersToWake : MD := (yX0_orderSleepersToWake, cX0_orderSleepersToWake, 2, none, { frames := 2, cells := 0, slots := 0, locals := 41 })
theorem vX0_orderSleepersToWake : VM mX0_orderSleepersToWake 0 := ⟨gw_of 526 (by decide +kernel) (by decide +kernel), gw_of 84 (by decide +kernel) (by decide +kernel), by decide +kernel, by decide +kernel, by decide +kernel⟩
theorem viX0_orderSleepersToWake : Cond.instanceMethod yX0_orderSleepersToWake ∈ gw := gw_of 525 (by decide +kernel) (by decide +kernel)
theorem vsX0_orderSleepersToWake : Cond.selects RX0 yX0_orderSleepersToWake yX0_orderSleepersToWake ∈ gw := gw_of 43 (by decide +kernel) (by decide +kernel)
abbrev mX0_orderToWake : MD := (yX0_orderToWake, cX0_orderToWake, 2, none, { frames := 1, cells := 0, slots := 0, locals := 20 })
theorem vX0_orderToWake : VM mX0_orderToWake 1 := ⟨gw_of 419 (by decide +kernel) (by decide +kernel), gw_of 84 (by decide +kernel) (by decide +kernel), by decide +kernel, by decide +kernel, by decide +kernel⟩
theorem viX0_orderToWake : Cond.instanceMethod yX0_orderToWake ∈ gw := gw_of 418 (by decide +kernel) (by decide +kernel)
theorem vsX0_orderToWake : Cond.selects RX0 yX0_orderToWake yX0_orderToWake ∈ gw := gw_of 24 (by decide +kernel) (by decide +kernel)
abbrev mX0_placeInQueue : MD := (yX0_placeInQueue, cX0_placeInQueue, 3, (some .int), { frames := 0, cells := 0, slots := 0, locals := 0 })
theorem vX0_placeInQueue : VM mX0_placeInQueue 1 := ⟨gw_of 493 (by decide +kernel) (by decide +kernel), gw_of 84 (by decide +kernel) (by decide +kernel), by decide +kernel, by decide +kernel, by decide +kernel⟩
theorem viX0_placeInQueue : Cond.instanceMethod yX0_placeInQueue ∈ gw := gw_of 492 (by decide +kernel) (by decide +kernel)
theorem vsX0_placeInQueue : Cond.selects RX0 yX0_placeInQueue yX0_placeInQueue ∈ gw := gw_of 39 (by decide +kernel) (by decide +kernel)
abbrev mX0_readOneAnother : MD := (yX0_readOneAnother, cX0_readOneAnother, 3, none, { frames := 3, cells := 0, slots := 0, locals := 62 })
theorem vX0_readOneAnother : VM mX0_readOneAnother 0 := ⟨gw_of 435 (by decide +kernel) (by decide +kernel), gw_of 84 (by decide +kernel) (by decide +kernel), by decide +kernel, by decide +kernel, by decide +kernel⟩
theorem viX0_readOneAnother : Cond.instanceMethod yX0_readOneAnother ∈ gw := gw_of 434 (by decide +kernel) (by decide +kernel)
theorem vsX0_readOneAnother : Cond.selects RX0 yX0_readOneAnother yX0_readOneAnother ∈ gw := gw_of 27 (by decide +kernel) (by decide +kernel)
abbrev mX0_readersOf : MD := (yX0_readersOf, cX0_readersOf, 4, (some .int), { frames := 1, cells := 0, slots := 0, locals := 21 })
theorem vX0_readersOf : VM mX0_readersOf 1 := ⟨gw_of 400 (by decide +kernel) (by decide +kernel), gw_of 84 (by decide +kernel) (by decide +kernel), by decide +kernel, by decide +kernel, by decide +kernel⟩
theorem viX0_readersOf : Cond.instanceMethod yX0_readersOf ∈ gw := gw_of 399 (by decide +kernel) (by decide +kernel)
theorem vsX0_readersOf : Cond.selects RX0 yX0_readersOf yX0_readersOf ∈ gw := gw_of 22 (by decide +kernel) (by decide +kernel)
abbrev mX0_risingLoad : MD := (yX0_risingLoad, cX0_risingLoad, 3, (some .int), { frames := 0, cells := 0, slots := 0, locals := 0 })
theorem vX0_risingLoad : VM mX0_risingLoad 0 := ⟨gw_of 481 (by decide +kernel) (by decide +kernel), gw_of 84 (by decide +kernel) (by decide +kernel), by decide +kernel, by decide +kernel, by decide +kernel⟩
theorem viX0_risingLoad : Cond.instanceMethod yX0_risingLoad ∈ gw := gw_of 480 (by decide +kernel) (by decide +kernel)
theorem vsX0_risingLoad : Cond.selects RX0 yX0_risingLoad yX0_risingLoad ∈ gw := gw_of 38 (by decide +kernel) (by decide +kernel)
abbrev mX0_sumOfValues : MD := (yX0_sumOfValues, cX0_sumOfValues, 3, (some .int), { frames := 0, cells := 0, slots := 0, locals := 0 })
theorem vX0_sumOfValues : VM mX0_sumOfValues 0 := ⟨gw_of 514 (by decide +kernel) (by decide +kernel), gw_of 84 (by decide +kernel) (by decide +kernel), by decide +kernel, by decide +kernel, by decide +kernel⟩
theorem viX0_sumOfValues : Cond.instanceMethod yX0_sumOfValues ∈ gw := gw_of 513 (by decide +kernel) (by decide +kernel)
theorem vsX0_sumOfValues : Cond.selects RX0 yX0_sumOfValues yX0_sumOfValues ∈ gw := gw_of 41 (by decide +kernel) (by decide +kernel)
abbrev mX0_sumTold : MD := (yX0_sumTold, cX0_sumTold, 4, (some .int), { frames := 1, cells := 0, slots := 0, locals := 21 })
theorem vX0_sumTold : VM mX0_sumTold 1 := ⟨gw_of 447 (by decide +kernel) (by decide +kernel), gw_of 84 (by decide +kernel) (by decide +kernel), by decide +kernel, by decide +kernel, by decide +kernel⟩
theorem viX0_sumTold : Cond.instanceMethod yX0_sumTold ∈ gw := gw_of 446 (by decide +kernel) (by decide +kernel)
theorem vsX0_sumTold : Cond.selects RX0 yX0_sumTold yX0_sumTold ∈ gw := gw_of 30 (by decide +kernel) (by decide +kernel)
abbrev mX0_whatTells : MD := (yX0_whatTells, cX0_whatTells, 2, (some .int), { frames := 2, cells := 0, slots := 0, locals := 41 })
theorem vX0_whatTells : VM mX0_whatTells 1 := ⟨gw_of 439 (by decide +kernel) (by decide +kernel), gw_of 84 (by decide +kernel) (by decide +kernel), by decide +kernel, by decide +kernel, by decide +kernel⟩
theorem viX0_whatTells : Cond.instanceMethod yX0_whatTells ∈ gw := gw_of 438 (by decide +kernel) (by decide +kernel)
theorem vsX0_whatTells : Cond.selects RX0 yX0_whatTells yX0_whatTells ∈ gw := gw_of 28 (by decide +kernel) (by decide +kernel)
abbrev mX1_beginIsland : MD := (yX1_beginIsland, cX1_beginIsland, 1, none, { frames := 0, cells := 0, slots := 0, locals := 0 })
theorem vX1_beginIsland : VM mX1_beginIsland 0 := ⟨gw_of 214 (by decide +kernel) (by decide +kernel), gw_of 86 (by decide +kernel) (by decide +kernel), by decide +kernel, by decide +kernel, by decide +kernel⟩
theorem viX1_beginIsland : Cond.instanceMethod yX1_beginIsland ∈ gw := gw_of 213 (by decide +kernel) (by decide +kernel)
theorem vsX1_beginIsland : Cond.selects RX1 yX1_beginIsland yX1_beginIsland ∈ gw := gw_of 1 (by decide +kernel) (by decide +kernel)
abbrev mX1_endIsland : MD := (yX1_endIsland, cX1_endIsland, 1, none, { frames := 2, cells := 0, slots := 0, locals := 46 })
theorem vX1_endIsland : VM mX1_endIsland 0 := ⟨gw_of 367 (by decide +kernel) (by decide +kernel), gw_of 86 (by decide +kernel) (by decide +kernel), by decide +kernel, by decide +kernel, by decide +kernel⟩
theorem viX1_endIsland : Cond.instanceMethod yX1_endIsland ∈ gw := gw_of 366 (by decide +kernel) (by decide +kernel)
theorem vsX1_endIsland : Cond.selects RX1 yX1_endIsland yX1_endIsland ∈ gw := gw_of 18 (by decide +kernel) (by decide +kernel)
abbrev mX1_findFault : MD := (yX1_findFault, cX1_findFault, 3, (some .int), { frames := 5, cells := 0, slots := 0, locals := 108 })
theorem vX1_findFault : VM mX1_findFault 1 := ⟨gw_of 329 (by decide +kernel) (by decide +kernel), gw_of 86 (by decide +kernel) (by decide +kernel), by decide +kernel, by decide +kernel, by decide +kernel⟩
theorem viX1_findFault : Cond.instanceMethod yX1_findFault ∈ gw := gw_of 328 (by decide +kernel) (by decide +kernel)
theorem vsX1_findFault : Cond.selects RX1 yX1_findFault yX1_findFault ∈ gw := gw_of 9 (by decide +kernel) (by decide +kernel)
abbrev mX1_init : MD := (yX1_init, cX1_init, 1, none, { frames := 2, cells := 11, slots := 99, locals := 42 })
theorem vX1_init : VM mX1_init 0 := ⟨gw_of 207 (by decide +kernel) (by decide +kernel), gw_of 86 (by decide +kernel) (by decide +kernel), by decide +kernel, by decide +kernel, by decide +kernel⟩
theorem viX1_init : Cond.instanceMethod yX1_init ∈ gw := gw_of 206 (by decide +kernel) (by decide +kernel)
abbrev mX1_takes : MD := (yX1_takes, cX1_takes, 2, (some .boolean), { frames := 4, cells := 0, slots := 0, locals := 87 })
theorem vX1_takes : VM mX1_takes 1 := ⟨gw_of 334 (by decide +kernel) (by decide +kernel), gw_of 86 (by decide +kernel) (by decide +kernel), by decide +kernel, by decide +kernel, by decide +kernel⟩
theorem viX1_takes : Cond.instanceMethod yX1_takes ∈ gw := gw_of 333 (by decide +kernel) (by decide +kernel)
theorem vsX1_takes : Cond.selects RX1 yX1_takes yX1_takes ∈ gw := gw_of 10 (by decide +kernel) (by decide +kernel)
abbrev mX1_takesArrow : MD := (yX1_takesArrow, cX1_takesArrow, 2, (some .boolean), { frames := 0, cells := 0, slots := 0, locals := 0 })
theorem vX1_takesArrow : VM mX1_takesArrow 1 := ⟨gw_of 359 (by decide +kernel) (by decide +kernel), gw_of 86 (by decide +kernel) (by decide +kernel), by decide +kernel, by decide +kernel, by decide +kernel⟩
theorem viX1_takesArrow : Cond.instanceMethod yX1_takesArrow ∈ gw := gw_of 358 (by decide +kernel) (by decide +kernel)
theorem vsX1_takesArrow : Cond.selects RX1 yX1_takesArrow yX1_takesArrow ∈ gw := gw_of 16 (by decide +kernel) (by decide +kernel)
abbrev mX1_takesComma : MD := (yX1_takesComma, cX1_takesComma, 2, (some .boolean), { frames := 0, cells := 0, slots := 0, locals := 0 })
theorem vX1_takesComma : VM mX1_takesComma 1 := ⟨gw_of 350 (by decide +kernel) (by decide +kernel), gw_of 86 (by decide +kernel) (by decide +kernel), by decide +kernel, by decide +kernel, by decide +kernel⟩
theorem viX1_takesComma : Cond.instanceMethod yX1_takesComma ∈ gw := gw_of 349 (by decide +kernel) (by decide +kernel)
theorem vsX1_takesComma : Cond.selects RX1 yX1_takesComma yX1_takesComma ∈ gw := gw_of 14 (by decide +kernel) (by decide +kernel)
abbrev mX1_takesEnd : MD := (yX1_takesEnd, cX1_takesEnd, 2, (some .boolean), { frames := 3, cells := 0, slots := 0, locals := 66 })
theorem vX1_takesEnd : VM mX1_takesEnd 1 := ⟨gw_of 363 (by decide +kernel) (by decide +kernel), gw_of 86 (by decide +kernel) (by decide +kernel), by decide +kernel, by decide +kernel, by decide +kernel⟩
theorem viX1_takesEnd : Cond.instanceMethod yX1_takesEnd ∈ gw := gw_of 362 (by decide +kernel) (by decide +kernel)
theorem vsX1_takesEnd : Cond.selects RX1 yX1_takesEnd yX1_takesEnd ∈ gw := gw_of 17 (by decide +kernel) (by decide +kernel)
abbrev mX1_takesIsolator : MD := (yX1_takesIsolator, cX1_takesIsolator, 2, (some .boolean), { frames := 0, cells := 0, slots := 0, locals := 0 })
theorem vX1_takesIsolator : VM mX1_takesIsolator 1 := ⟨gw_of 338 (by decide +kernel) (by decide +kernel), gw_of 86 (by decide +kernel) (by decide +kernel), by decide +kernel, by decide +kernel, by decide +kernel⟩
theorem viX1_takesIsolator : Cond.instanceMethod yX1_takesIsolator ∈ gw := gw_of 337 (by decide +kernel) (by decide +kernel)
theorem vsX1_takesIsolator : Cond.selects RX1 yX1_takesIsolator yX1_takesIsolator ∈ gw := gw_of 11 (by decide +kernel) (by decide +kernel)
abbrev mX1_takesKeeper : MD := (yX1_takesKeeper, cX1_takesKeeper, 2, (some .boolean), { frames := 0, cells := 0, slots := 0, locals := 0 })
theorem vX1_takesKeeper : VM mX1_takesKeeper 1 := ⟨gw_of 342 (by decide +kernel) (by decide +kernel), gw_of 86 (by decide +kernel) (by decide +kernel), by decide +kernel, by decide +kernel, by decide +kernel⟩
theorem viX1_takesKeeper : Cond.instanceMethod yX1_takesKeeper ∈ gw := gw_of 341 (by decide +kernel) (by decide +kernel)
theorem vsX1_takesKeeper : Cond.selects RX1 yX1_takesKeeper yX1_takesKeeper ∈ gw := gw_of 12 (by decide +kernel) (by decide +kernel)
abbrev mX1_takesLoad : MD := (yX1_takesLoad, cX1_takesLoad, 3, (some .boolean), { frames := 1, cells := 0, slots := 0, locals := 22 })
theorem vX1_takesLoad : VM mX1_takesLoad 1 := ⟨gw_of 354 (by decide +kernel) (by decide +kernel), gw_of 86 (by decide +kernel) (by decide +kernel), by decide +kernel, by decide +kernel, by decide +kernel⟩
theorem viX1_takesLoad : Cond.instanceMethod yX1_takesLoad ∈ gw := gw_of 353 (by decide +kernel) (by decide +kernel)
theorem vsX1_takesLoad : Cond.selects RX1 yX1_takesLoad yX1_takesLoad ∈ gw := gw_of 15 (by decide +kernel) (by decide +kernel)
abbrev mX1_takesNumber : MD := (yX1_takesNumber, cX1_takesNumber, 3, (some .boolean), { frames := 1, cells := 0, slots := 0, locals := 22 })
theorem vX1_takesNumber : VM mX1_takesNumber 1 := ⟨gw_of 372 (by decide +kernel) (by decide +kernel), gw_of 86 (by decide +kernel) (by decide +kernel), by decide +kernel, by decide +kernel, by decide +kernel⟩
theorem viX1_takesNumber : Cond.instanceMethod yX1_takesNumber ∈ gw := gw_of 371 (by decide +kernel) (by decide +kernel)
theorem vsX1_takesNumber : Cond.selects RX1 yX1_takesNumber yX1_takesNumber ∈ gw := gw_of 19 (by decide +kernel) (by decide +kernel)
abbrev mX1_takesRise : MD := (yX1_takesRise, cX1_takesRise, 2, (some .boolean), { frames := 0, cells := 0, slots := 0, locals := 0 })
theorem vX1_takesRise : VM mX1_takesRise 1 := ⟨gw_of 346 (by decide +kernel) (by decide +kernel), gw_of 86 (by decide +kernel) (by decide +kernel), by decide +kernel, by decide +kernel, by decide +kernel⟩
theorem viX1_takesRise : Cond.instanceMethod yX1_takesRise ∈ gw := gw_of 345 (by decide +kernel) (by decide +kernel)
theorem vsX1_takesRise : Cond.selects RX1 yX1_takesRise yX1_takesRise ∈ gw := gw_of 13 (by decide +kernel) (by decide +kernel)
abbrev mX2_dropOldest : MD := (yX2_dropOldest, cX2_dropOldest, 3, none, { frames := 0, cells := 0, slots := 0, locals := 0 })
theorem vX2_dropOldest : VM mX2_dropOldest 0 := ⟨gw_of 298 (by decide +kernel) (by decide +kernel), gw_of 87 (by decide +kernel) (by decide +kernel), by decide +kernel, by decide +kernel, by decide +kernel⟩
theorem viX2_dropOldest : Cond.instanceMethod yX2_dropOldest ∈ gw := gw_of 297 (by decide +kernel) (by decide +kernel)
theorem vsX2_dropOldest : Cond.selects RX2 yX2_dropOldest yX2_dropOldest ∈ gw := gw_of 4 (by decide +kernel) (by decide +kernel)
abbrev mX2_init : MD := (yX2_init, cX2_init, 2, none, { frames := 2, cells := 67, slots := 600, locals := 42 })
theorem vX2_init : VM mX2_init 0 := ⟨gw_of 242 (by decide +kernel) (by decide +kernel), gw_of 87 (by decide +kernel) (by decide +kernel), by decide +kernel, by decide +kernel, by decide +kernel⟩
theorem viX2_init : Cond.instanceMethod yX2_init ∈ gw := gw_of 241 (by decide +kernel) (by decide +kernel)
abbrev mX2_record : MD := (yX2_record, cX2_record, 3, none, { frames := 1, cells := 0, slots := 0, locals := 22 })
theorem vX2_record : VM mX2_record 1 := ⟨gw_of 294 (by decide +kernel) (by decide +kernel), gw_of 87 (by decide +kernel) (by decide +kernel), by decide +kernel, by decide +kernel, by decide +kernel⟩
theorem viX2_record : Cond.instanceMethod yX2_record ∈ gw := gw_of 293 (by decide +kernel) (by decide +kernel)
theorem vsX2_record : Cond.selects RX2 yX2_record yX2_record ∈ gw := gw_of 3 (by decide +kernel) (by decide +kernel)
abbrev mX2_stateAt : MD := (yX2_stateAt, cX2_stateAt, 2, (some (.object "SleepingIslands$Chip")), { frames := 0, cells := 0, slots := 0, locals := 0 })
theorem vX2_stateAt : VM mX2_stateAt 1 := ⟨gw_of 302 (by decide +kernel) (by decide +kernel), gw_of 87 (by decide +kernel) (by decide +kernel), by decide +kernel, by decide +kernel, by decide +kernel⟩
theorem viX2_stateAt : Cond.instanceMethod yX2_stateAt ∈ gw := gw_of 301 (by decide +kernel) (by decide +kernel)
theorem vsX2_stateAt : Cond.selects RX2 yX2_stateAt yX2_stateAt ∈ gw := gw_of 5 (by decide +kernel) (by decide +kernel)
abbrev mX2_takeBack : MD := (yX2_takeBack, cX2_takeBack, 3, none, { frames := 1, cells := 0, slots := 0, locals := 22 })
theorem vX2_takeBack : VM mX2_takeBack 1 := ⟨gw_of 576 (by decide +kernel) (by decide +kernel), gw_of 87 (by decide +kernel) (by decide +kernel), by decide +kernel, by decide +kernel, by decide +kernel⟩
theorem viX2_takeBack : Cond.instanceMethod yX2_takeBack ∈ gw := gw_of 575 (by decide +kernel) (by decide +kernel)
theorem vsX2_takeBack : Cond.selects RX2 yX2_takeBack yX2_takeBack ∈ gw := gw_of 48 (by decide +kernel) (by decide +kernel)
abbrev mX3_append : MD := (yX3_append, cX3_append, 2, none, { frames := 0, cells := 0, slots := 0, locals := 0 })
theorem vX3_append : VM mX3_append 1 := ⟨gw_of 560 (by decide +kernel) (by decide +kernel), gw_of 85 (by decide +kernel) (by decide +kernel), by decide +kernel, by decide +kernel, by decide +kernel⟩
theorem viX3_append : Cond.instanceMethod yX3_append ∈ gw := gw_of 559 (by decide +kernel) (by decide +kernel)
theorem vsX3_append : Cond.selects RX3 yX3_append yX3_append ∈ gw := gw_of 47 (by decide +kernel) (by decide +kernel)
abbrev mX3_init : MD := (yX3_init, cX3_init, 1, none, { frames := 1, cells := 1, slots := 64, locals := 22 })
theorem vX3_init : VM mX3_init 0 := ⟨gw_of 190 (by decide +kernel) (by decide +kernel), gw_of 85 (by decide +kernel) (by decide +kernel), by decide +kernel, by decide +kernel, by decide +kernel⟩
theorem viX3_init : Cond.instanceMethod yX3_init ∈ gw := gw_of 189 (by decide +kernel) (by decide +kernel)
abbrev mX4_allAwake : MD := (yX4_allAwake, cX4_allAwake, 1, (some .int), { frames := 5, cells := 0, slots := 0, locals := 106 })
theorem vX4_allAwake : VM mX4_allAwake 0 := ⟨gw_of 518 (by decide +kernel) (by decide +kernel), gw_of 83 (by decide +kernel) (by decide +kernel), by decide +kernel, by decide +kernel, by decide +kernel⟩
theorem viX4_allAwake : Cond.instanceMethod yX4_allAwake ∈ gw := gw_of 516 (by decide +kernel) (by decide +kernel)
theorem vsX4_allAwake : Cond.selects RX4 yX4_allAwake yX4_allAwake ∈ gw := gw_of 517 (by decide +kernel) (by decide +kernel)
abbrev mX4_build : MD := (yX4_build, cX4_build, 6, (some .int), { frames := 2, cells := 0, slots := 0, locals := 46 })
theorem vX4_build : VM mX4_build 4 := ⟨gw_of 314 (by decide +kernel) (by decide +kernel), gw_of 83 (by decide +kernel) (by decide +kernel), by decide +kernel, by decide +kernel, by decide +kernel⟩
theorem viX4_build : Cond.instanceMethod yX4_build ∈ gw := gw_of 312 (by decide +kernel) (by decide +kernel)
theorem vsX4_build : Cond.selects RX4 yX4_build yX4_build ∈ gw := gw_of 313 (by decide +kernel) (by decide +kernel)
abbrev mX4_count : MD := (yX4_count, cX4_count, 2, (some .int), { frames := 1, cells := 0, slots := 0, locals := 23 })
theorem vX4_count : VM mX4_count 1 := ⟨gw_of 497 (by decide +kernel) (by decide +kernel), gw_of 83 (by decide +kernel) (by decide +kernel), by decide +kernel, by decide +kernel, by decide +kernel⟩
theorem viX4_count : Cond.instanceMethod yX4_count ∈ gw := gw_of 495 (by decide +kernel) (by decide +kernel)
theorem vsX4_count : Cond.selects RX4 yX4_count yX4_count ∈ gw := gw_of 496 (by decide +kernel) (by decide +kernel)
abbrev mX4_fault : MD := (yX4_fault, cX4_fault, 1, (some .int), { frames := 6, cells := 0, slots := 0, locals := 130 })
theorem vX4_fault : VM mX4_fault 0 := ⟨gw_of 568 (by decide +kernel) (by decide +kernel), gw_of 83 (by decide +kernel) (by decide +kernel), by decide +kernel, by decide +kernel, by decide +kernel⟩
theorem viX4_fault : Cond.instanceMethod yX4_fault ∈ gw := gw_of 566 (by decide +kernel) (by decide +kernel)
theorem vsX4_fault : Cond.selects RX4 yX4_fault yX4_fault ∈ gw := gw_of 567 (by decide +kernel) (by decide +kernel)
abbrev mX4_ifPassed : MD := (yX4_ifPassed, cX4_ifPassed, 3, (some .int), { frames := 5, cells := 0, slots := 0, locals := 106 })
theorem vX4_ifPassed : VM mX4_ifPassed 2 := ⟨gw_of 510 (by decide +kernel) (by decide +kernel), gw_of 83 (by decide +kernel) (by decide +kernel), by decide +kernel, by decide +kernel, by decide +kernel⟩
theorem viX4_ifPassed : Cond.instanceMethod yX4_ifPassed ∈ gw := gw_of 508 (by decide +kernel) (by decide +kernel)
theorem vsX4_ifPassed : Cond.selects RX4 yX4_ifPassed yX4_ifPassed ∈ gw := gw_of 509 (by decide +kernel) (by decide +kernel)
abbrev mX4_init : MD := (yX4_init, cX4_init, 1, none, { frames := 3, cells := 126, slots := 1170, locals := 63 })
theorem vX4_init : VM mX4_init 0 := ⟨gw_of 95 (by decide +kernel) (by decide +kernel), gw_of 83 (by decide +kernel) (by decide +kernel), by decide +kernel, by decide +kernel, by decide +kernel⟩
theorem viX4_init : Cond.instanceMethod yX4_init ∈ gw := gw_of 94 (by decide +kernel) (by decide +kernel)
abbrev mX4_isIn : MD := (yX4_isIn, cX4_isIn, 2, (some .boolean), { frames := 0, cells := 0, slots := 0, locals := 0 })
theorem vX4_isIn : VM mX4_isIn 2 := ⟨gw_of 388 (by decide +kernel) (by decide +kernel), gw_of 83 (by decide +kernel) (by decide +kernel), by decide +kernel, by decide +kernel, by decide +kernel⟩
theorem vtX4_isIn : Cond.static yX4_isIn ∈ gw := gw_of 387 (by decide +kernel) (by decide +kernel)
abbrev mX4_isWithin : MD := (yX4_isWithin, cX4_isWithin, 3, (some .boolean), { frames := 0, cells := 0, slots := 0, locals := 0 })
theorem vX4_isWithin : VM mX4_isWithin 3 := ⟨gw_of 290 (by decide +kernel) (by decide +kernel), gw_of 83 (by decide +kernel) (by decide +kernel), by decide +kernel, by decide +kernel, by decide +kernel⟩
theorem vtX4_isWithin : Cond.static yX4_isWithin ∈ gw := gw_of 289 (by decide +kernel) (by decide +kernel)
abbrev mX4_leastCurrent : MD := (yX4_leastCurrent, cX4_leastCurrent, 3, (some .int), { frames := 5, cells := 0, slots := 0, locals := 106 })
theorem vX4_leastCurrent : VM mX4_leastCurrent 1 := ⟨gw_of 540 (by decide +kernel) (by decide +kernel), gw_of 83 (by decide +kernel) (by decide +kernel), by decide +kernel, by decide +kernel, by decide +kernel⟩
theorem viX4_leastCurrent : Cond.instanceMethod yX4_leastCurrent ∈ gw := gw_of 538 (by decide +kernel) (by decide +kernel)
theorem vsX4_leastCurrent : Cond.selects RX4 yX4_leastCurrent yX4_leastCurrent ∈ gw := gw_of 539 (by decide +kernel) (by decide +kernel)
abbrev mX4_link : MD := (yX4_link, cX4_link, 4, (some .int), { frames := 2, cells := 0, slots := 0, locals := 44 })
theorem vX4_link : VM mX4_link 3 := ⟨gw_of 381 (by decide +kernel) (by decide +kernel), gw_of 83 (by decide +kernel) (by decide +kernel), by decide +kernel, by decide +kernel, by decide +kernel⟩
theorem viX4_link : Cond.instanceMethod yX4_link ∈ gw := gw_of 379 (by decide +kernel) (by decide +kernel)
theorem vsX4_link : Cond.selects RX4 yX4_link yX4_link ∈ gw := gw_of 380 (by decide +kernel) (by decide +kernel)
abbrev mX4_of : MD := (yX4_of, cX4_of, 3, (some .int), { frames := 3, cells := 0, slots := 0, locals := 62 })
theorem vX4_of : VM mX4_of 2 := ⟨gw_of 488 (by decide +kernel) (by decide +kernel), gw_of 83 (by decide +kernel) (by decide +kernel), by decide +kernel, by decide +kernel, by decide +kernel⟩
theorem viX4_of : Cond.instanceMethod yX4_of ∈ gw := gw_of 486 (by decide +kernel) (by decide +kernel)
theorem vsX4_of : Cond.selects RX4 yX4_of yX4_of ∈ gw := gw_of 487 (by decide +kernel) (by decide +kernel)
abbrev mX4_pass : MD := (yX4_pass, cX4_pass, 3, (some .int), { frames := 5, cells := 0, slots := 0, locals := 106 })
theorem vX4_pass : VM mX4_pass 1 := ⟨gw_of 423 (by decide +kernel) (by decide +kernel), gw_of 83 (by decide +kernel) (by decide +kernel), by decide +kernel, by decide +kernel, by decide +kernel⟩
theorem viX4_pass : Cond.instanceMethod yX4_pass ∈ gw := gw_of 421 (by decide +kernel) (by decide +kernel)
theorem vsX4_pass : Cond.selects RX4 yX4_pass yX4_pass ∈ gw := gw_of 422 (by decide +kernel) (by decide +kernel)
abbrev mX4_put : MD := (yX4_put, cX4_put, 5, (some .int), { frames := 2, cells := 0, slots := 0, locals := 46 })
theorem vX4_put : VM mX4_put 1 := ⟨gw_of 552 (by decide +kernel) (by decide +kernel), gw_of 83 (by decide +kernel) (by decide +kernel), by decide +kernel, by decide +kernel, by decide +kernel⟩
theorem viX4_put : Cond.instanceMethod yX4_put ∈ gw := gw_of 550 (by decide +kernel) (by decide +kernel)
theorem vsX4_put : Cond.selects RX4 yX4_put yX4_put ∈ gw := gw_of 551 (by decide +kernel) (by decide +kernel)
abbrev mX4_quiet : MD := (yX4_quiet, cX4_quiet, 4, (some .int), { frames := 6, cells := 0, slots := 0, locals := 128 })
theorem vX4_quiet : VM mX4_quiet 1 := ⟨gw_of 544 (by decide +kernel) (by decide +kernel), gw_of 83 (by decide +kernel) (by decide +kernel), by decide +kernel, by decide +kernel, by decide +kernel⟩
theorem viX4_quiet : Cond.instanceMethod yX4_quiet ∈ gw := gw_of 542 (by decide +kernel) (by decide +kernel)
theorem vsX4_quiet : Cond.selects RX4 yX4_quiet yX4_quiet ∈ gw := gw_of 543 (by decide +kernel) (by decide +kernel)
abbrev mX4_read : MD := (yX4_read, cX4_read, 2, (some .int), { frames := 6, cells := 0, slots := 0, locals := 130 })
theorem vX4_read : VM mX4_read 0 := ⟨gw_of 325 (by decide +kernel) (by decide +kernel), gw_of 83 (by decide +kernel) (by decide +kernel), by decide +kernel, by decide +kernel, by decide +kernel⟩
theorem viX4_read : Cond.instanceMethod yX4_read ∈ gw := gw_of 323 (by decide +kernel) (by decide +kernel)
theorem vsX4_read : Cond.selects RX4 yX4_read yX4_read ∈ gw := gw_of 324 (by decide +kernel) (by decide +kernel)
abbrev mX4_restore : MD := (yX4_restore, cX4_restore, 2, (some .int), { frames := 2, cells := 0, slots := 0, locals := 44 })
theorem vX4_restore : VM mX4_restore 1 := ⟨gw_of 588 (by decide +kernel) (by decide +kernel), gw_of 83 (by decide +kernel) (by decide +kernel), by decide +kernel, by decide +kernel, by decide +kernel⟩
theorem viX4_restore : Cond.instanceMethod yX4_restore ∈ gw := gw_of 586 (by decide +kernel) (by decide +kernel)
theorem vsX4_restore : Cond.selects RX4 yX4_restore yX4_restore ∈ gw := gw_of 587 (by decide +kernel) (by decide +kernel)
abbrev mX4_save : MD := (yX4_save, cX4_save, 2, (some .int), { frames := 1, cells := 0, slots := 0, locals := 22 })
theorem vX4_save : VM mX4_save 1 := ⟨gw_of 580 (by decide +kernel) (by decide +kernel), gw_of 83 (by decide +kernel) (by decide +kernel), by decide +kernel, by decide +kernel, by decide +kernel⟩
theorem viX4_save : Cond.instanceMethod yX4_save ∈ gw := gw_of 578 (by decide +kernel) (by decide +kernel)
theorem vsX4_save : Cond.selects RX4 yX4_save yX4_save ∈ gw := gw_of 579 (by decide +kernel) (by decide +kernel)
abbrev mX4_set : MD := (yX4_set, cX4_set, 3, (some .int), { frames := 3, cells := 0, slots := 0, locals := 66 })
theorem vX4_set : VM mX4_set 2 := ⟨gw_of 283 (by decide +kernel) (by decide +kernel), gw_of 83 (by decide +kernel) (by decide +kernel), by decide +kernel, by decide +kernel, by decide +kernel⟩
theorem viX4_set : Cond.instanceMethod yX4_set ∈ gw := gw_of 281 (by decide +kernel) (by decide +kernel)
theorem vsX4_set : Cond.selects RX4 yX4_set yX4_set ∈ gw := gw_of 282 (by decide +kernel) (by decide +kernel)
abbrev mX4_setAsking : MD := (yX4_setAsking, cX4_setAsking, 3, (some .int), { frames := 2, cells := 0, slots := 0, locals := 44 })
theorem vX4_setAsking : VM mX4_setAsking 1 := ⟨gw_of 310 (by decide +kernel) (by decide +kernel), gw_of 83 (by decide +kernel) (by decide +kernel), by decide +kernel, by decide +kernel, by decide +kernel⟩
theorem viX4_setAsking : Cond.instanceMethod yX4_setAsking ∈ gw := gw_of 309 (by decide +kernel) (by decide +kernel)
theorem vsX4_setAsking : Cond.selects RX4 yX4_setAsking yX4_setAsking ∈ gw := gw_of 7 (by decide +kernel) (by decide +kernel)
abbrev mX4_setCurrent : MD := (yX4_setCurrent, cX4_setCurrent, 3, (some .int), { frames := 2, cells := 0, slots := 0, locals := 44 })
theorem vX4_setCurrent : VM mX4_setCurrent 1 := ⟨gw_of 287 (by decide +kernel) (by decide +kernel), gw_of 83 (by decide +kernel) (by decide +kernel), by decide +kernel, by decide +kernel, by decide +kernel⟩
theorem viX4_setCurrent : Cond.instanceMethod yX4_setCurrent ∈ gw := gw_of 286 (by decide +kernel) (by decide +kernel)
theorem vsX4_setCurrent : Cond.selects RX4 yX4_setCurrent yX4_setCurrent ∈ gw := gw_of 2 (by decide +kernel) (by decide +kernel)
abbrev mX4_signsIn : MD := (yX4_signsIn, cX4_signsIn, 5, (some .int), { frames := 1, cells := 0, slots := 0, locals := 22 })
theorem vX4_signsIn : VM mX4_signsIn 1 := ⟨gw_of 555 (by decide +kernel) (by decide +kernel), gw_of 83 (by decide +kernel) (by decide +kernel), by decide +kernel, by decide +kernel, by decide +kernel⟩
theorem vtX4_signsIn : Cond.static yX4_signsIn ∈ gw := gw_of 554 (by decide +kernel) (by decide +kernel)
abbrev mX4_sleep : MD := (yX4_sleep, cX4_sleep, 2, (some .int), { frames := 2, cells := 0, slots := 0, locals := 44 })
theorem vX4_sleep : VM mX4_sleep 1 := ⟨gw_of 396 (by decide +kernel) (by decide +kernel), gw_of 83 (by decide +kernel) (by decide +kernel), by decide +kernel, by decide +kernel, by decide +kernel⟩
theorem viX4_sleep : Cond.instanceMethod yX4_sleep ∈ gw := gw_of 394 (by decide +kernel) (by decide +kernel)
theorem vsX4_sleep : Cond.selects RX4 yX4_sleep yX4_sleep ∈ gw := gw_of 395 (by decide +kernel) (by decide +kernel)
abbrev mX4_sleepsQuietly : MD := (yX4_sleepsQuietly, cX4_sleepsQuietly, 3, (some .boolean), { frames := 5, cells := 0, slots := 0, locals := 106 })
theorem vX4_sleepsQuietly : VM mX4_sleepsQuietly 2 := ⟨gw_of 548 (by decide +kernel) (by decide +kernel), gw_of 83 (by decide +kernel) (by decide +kernel), by decide +kernel, by decide +kernel, by decide +kernel⟩
theorem viX4_sleepsQuietly : Cond.instanceMethod yX4_sleepsQuietly ∈ gw := gw_of 547 (by decide +kernel) (by decide +kernel)
theorem vsX4_sleepsQuietly : Cond.selects RX4 yX4_sleepsQuietly yX4_sleepsQuietly ∈ gw := gw_of 46 (by decide +kernel) (by decide +kernel)
abbrev mX4_slotOf : MD := (yX4_slotOf, cX4_slotOf, 2, (some (.object "SleepingIslands$Chip")), { frames := 0, cells := 0, slots := 0, locals := 0 })
theorem vX4_slotOf : VM mX4_slotOf 1 := ⟨gw_of 584 (by decide +kernel) (by decide +kernel), gw_of 83 (by decide +kernel) (by decide +kernel), by decide +kernel, by decide +kernel, by decide +kernel⟩
theorem viX4_slotOf : Cond.instanceMethod yX4_slotOf ∈ gw := gw_of 583 (by decide +kernel) (by decide +kernel)
theorem vsX4_slotOf : Cond.selects RX4 yX4_slotOf yX4_slotOf ∈ gw := gw_of 49 (by decide +kernel) (by decide +kernel)
abbrev mX4_ticksUntilAllAwake : MD := (yX4_ticksUntilAllAwake, cX4_ticksUntilAllAwake, 4, (some .int), { frames := 4, cells := 0, slots := 0, locals := 83 })
theorem vX4_ticksUntilAllAwake : VM mX4_ticksUntilAllAwake 2 := ⟨gw_of 522 (by decide +kernel) (by decide +kernel), gw_of 83 (by decide +kernel) (by decide +kernel), by decide +kernel, by decide +kernel, by decide +kernel⟩
theorem viX4_ticksUntilAllAwake : Cond.instanceMethod yX4_ticksUntilAllAwake ∈ gw := gw_of 521 (by decide +kernel) (by decide +kernel)
theorem vsX4_ticksUntilAllAwake : Cond.selects RX4 yX4_ticksUntilAllAwake yX4_ticksUntilAllAwake ∈ gw := gw_of 42 (by decide +kernel) (by decide +kernel)
abbrev mX4_undo : MD := (yX4_undo, cX4_undo, 1, (some .int), { frames := 2, cells := 0, slots := 0, locals := 44 })
theorem vX4_undo : VM mX4_undo 0 := ⟨gw_of 572 (by decide +kernel) (by decide +kernel), gw_of 83 (by decide +kernel) (by decide +kernel), by decide +kernel, by decide +kernel, by decide +kernel⟩
theorem viX4_undo : Cond.instanceMethod yX4_undo ∈ gw := gw_of 570 (by decide +kernel) (by decide +kernel)
theorem vsX4_undo : Cond.selects RX4 yX4_undo yX4_undo ∈ gw := gw_of 571 (by decide +kernel) (by decide +kernel)
abbrev mX4_value : MD := (yX4_value, cX4_value, 4, (some .int), { frames := 2, cells := 0, slots := 0, locals := 44 })
theorem vX4_value : VM mX4_value 2 := ⟨gw_of 392 (by decide +kernel) (by decide +kernel), gw_of 83 (by decide +kernel) (by decide +kernel), by decide +kernel, by decide +kernel, by decide +kernel⟩
theorem viX4_value : Cond.instanceMethod yX4_value ∈ gw := gw_of 390 (by decide +kernel) (by decide +kernel)
theorem vsX4_value : Cond.selects RX4 yX4_value yX4_value ∈ gw := gw_of 391 (by decide +kernel) (by decide +kernel)
abbrev mX4_waiting : MD := (yX4_waiting, cX4_waiting, 2, (some .int), { frames := 2, cells := 0, slots := 0, locals := 41 })
theorem vX4_waiting : VM mX4_waiting 1 := ⟨gw_of 502 (by decide +kernel) (by decide +kernel), gw_of 83 (by decide +kernel) (by decide +kernel), by decide +kernel, by decide +kernel, by decide +kernel⟩
theorem viX4_waiting : Cond.instanceMethod yX4_waiting ∈ gw := gw_of 500 (by decide +kernel) (by decide +kernel)
theorem vsX4_waiting : Cond.selects RX4 yX4_waiting yX4_waiting ∈ gw := gw_of 501 (by decide +kernel) (by decide +kernel)
abbrev mX4_wake : MD := (yX4_wake, cX4_wake, 2, (some .int), { frames := 2, cells := 0, slots := 0, locals := 44 })
theorem vX4_wake : VM mX4_wake 1 := ⟨gw_of 415 (by decide +kernel) (by decide +kernel), gw_of 83 (by decide +kernel) (by decide +kernel), by decide +kernel, by decide +kernel, by decide +kernel⟩
theorem viX4_wake : Cond.instanceMethod yX4_wake ∈ gw := gw_of 413 (by decide +kernel) (by decide +kernel)
theorem vsX4_wake : Cond.selects RX4 yX4_wake yX4_wake ∈ gw := gw_of 414 (by decide +kernel) (by decide +kernel)
abbrev mX4_wipe : MD := (yX4_wipe, cX4_wipe, 2, (some .int), { frames := 0, cells := 0, slots := 0, locals := 0 })
theorem vX4_wipe : VM mX4_wipe 0 := ⟨gw_of 564 (by decide +kernel) (by decide +kernel), gw_of 83 (by decide +kernel) (by decide +kernel), by decide +kernel, by decide +kernel, by decide +kernel⟩
theorem viX4_wipe : Cond.instanceMethod yX4_wipe ∈ gw := gw_of 562 (by decide +kernel) (by decide +kernel)
theorem vsX4_wipe : Cond.selects RX4 yX4_wipe yX4_wipe ∈ gw := gw_of 563 (by decide +kernel) (by decide +kernel)
abbrev mX5_allAwake : MD := (yX5_allAwake, cX5_allAwake, 1, (some .int), { frames := 7, cells := 0, slots := 0, locals := 152 })
theorem vX5_allAwake : VM mX5_allAwake 0 := ⟨gw_of 827 (by decide +kernel) (by decide +kernel), gw_of 88 (by decide +kernel) (by decide +kernel), by decide +kernel, by decide +kernel, by decide +kernel⟩
theorem viX5_allAwake : Cond.instanceMethod yX5_allAwake ∈ gw := gw_of 825 (by decide +kernel) (by decide +kernel)
theorem vsX5_allAwake : Cond.selects RX5 yX5_allAwake yX5_allAwake ∈ gw := gw_of 826 (by decide +kernel) (by decide +kernel)
abbrev mX5_allAwakeWith : MD := (yX5_allAwakeWith, cX5_allAwakeWith, 4, (some .int), { frames := 6, cells := 0, slots := 0, locals := 129 })
theorem vX5_allAwakeWith : VM mX5_allAwakeWith 1 := ⟨gw_of 831 (by decide +kernel) (by decide +kernel), gw_of 88 (by decide +kernel) (by decide +kernel), by decide +kernel, by decide +kernel, by decide +kernel⟩
theorem viX5_allAwakeWith : Cond.instanceMethod yX5_allAwakeWith ∈ gw := gw_of 830 (by decide +kernel) (by decide +kernel)
theorem vsX5_allAwakeWith : Cond.selects RX5 yX5_allAwakeWith yX5_allAwakeWith ∈ gw := gw_of 80 (by decide +kernel) (by decide +kernel)
abbrev mX5_allValues : MD := (yX5_allValues, cX5_allValues, 3, (some .int), { frames := 1, cells := 0, slots := 0, locals := 22 })
theorem vX5_allValues : VM mX5_allValues 0 := ⟨gw_of 823 (by decide +kernel) (by decide +kernel), gw_of 88 (by decide +kernel) (by decide +kernel), by decide +kernel, by decide +kernel, by decide +kernel⟩
theorem viX5_allValues : Cond.instanceMethod yX5_allValues ∈ gw := gw_of 822 (by decide +kernel) (by decide +kernel)
theorem vsX5_allValues : Cond.selects RX5 yX5_allValues yX5_allValues ∈ gw := gw_of 79 (by decide +kernel) (by decide +kernel)
abbrev mX5_areAllAwake : MD := (yX5_areAllAwake, cX5_areAllAwake, 1, (some .boolean), { frames := 3, cells := 0, slots := 0, locals := 67 })
theorem vX5_areAllAwake : VM mX5_areAllAwake 0 := ⟨gw_of 835 (by decide +kernel) (by decide +kernel), gw_of 88 (by decide +kernel) (by decide +kernel), by decide +kernel, by decide +kernel, by decide +kernel⟩
theorem viX5_areAllAwake : Cond.instanceMethod yX5_areAllAwake ∈ gw := gw_of 834 (by decide +kernel) (by decide +kernel)
theorem vsX5_areAllAwake : Cond.selects RX5 yX5_areAllAwake yX5_areAllAwake ∈ gw := gw_of 81 (by decide +kernel) (by decide +kernel)
abbrev mX5_ask : MD := (yX5_ask, cX5_ask, 2, none, { frames := 4, cells := 0, slots := 0, locals := 88 })
theorem vX5_ask : VM mX5_ask 0 := ⟨gw_of 791 (by decide +kernel) (by decide +kernel), gw_of 88 (by decide +kernel) (by decide +kernel), by decide +kernel, by decide +kernel, by decide +kernel⟩
theorem viX5_ask : Cond.instanceMethod yX5_ask ∈ gw := gw_of 790 (by decide +kernel) (by decide +kernel)
theorem vsX5_ask : Cond.selects RX5 yX5_ask yX5_ask ∈ gw := gw_of 75 (by decide +kernel) (by decide +kernel)
abbrev mX5_awakeReaders : MD := (yX5_awakeReaders, cX5_awakeReaders, 2, (some .int), { frames := 3, cells := 0, slots := 0, locals := 67 })
theorem vX5_awakeReaders : VM mX5_awakeReaders 1 := ⟨gw_of 736 (by decide +kernel) (by decide +kernel), gw_of 88 (by decide +kernel) (by decide +kernel), by decide +kernel, by decide +kernel, by decide +kernel⟩
theorem viX5_awakeReaders : Cond.instanceMethod yX5_awakeReaders ∈ gw := gw_of 735 (by decide +kernel) (by decide +kernel)
theorem vsX5_awakeReaders : Cond.selects RX5 yX5_awakeReaders yX5_awakeReaders ∈ gw := gw_of 64 (by decide +kernel) (by decide +kernel)
abbrev mX5_bits : MD := (yX5_bits, cX5_bits, 3, (some .int), { frames := 0, cells := 0, slots := 0, locals := 0 })
theorem vX5_bits : VM mX5_bits 1 := ⟨gw_of 747 (by decide +kernel) (by decide +kernel), gw_of 88 (by decide +kernel) (by decide +kernel), by decide +kernel, by decide +kernel, by decide +kernel⟩
theorem vtX5_bits : Cond.static yX5_bits ∈ gw := gw_of 746 (by decide +kernel) (by decide +kernel)
abbrev mX5_build : MD := (yX5_build, cX5_build, 5, (some .int), { frames := 2, cells := 0, slots := 0, locals := 50 })
theorem vX5_build : VM mX5_build 4 := ⟨gw_of 664 (by decide +kernel) (by decide +kernel), gw_of 88 (by decide +kernel) (by decide +kernel), by decide +kernel, by decide +kernel, by decide +kernel⟩
theorem viX5_build : Cond.instanceMethod yX5_build ∈ gw := gw_of 662 (by decide +kernel) (by decide +kernel)
theorem vsX5_build : Cond.selects RX5 yX5_build yX5_build ∈ gw := gw_of 663 (by decide +kernel) (by decide +kernel)
abbrev mX5_character : MD := (yX5_character, cX5_character, 2, (some .int), { frames := 0, cells := 0, slots := 0, locals := 0 })
theorem vX5_character : VM mX5_character 1 := ⟨gw_of 692 (by decide +kernel) (by decide +kernel), gw_of 88 (by decide +kernel) (by decide +kernel), by decide +kernel, by decide +kernel, by decide +kernel⟩
theorem viX5_character : Cond.instanceMethod yX5_character ∈ gw := gw_of 691 (by decide +kernel) (by decide +kernel)
theorem vsX5_character : Cond.selects RX5 yX5_character yX5_character ∈ gw := gw_of 56 (by decide +kernel) (by decide +kernel)
abbrev mX5_comes : MD := (yX5_comes, cX5_comes, 8, none, { frames := 1, cells := 0, slots := 0, locals := 23 })
theorem vX5_comes : VM mX5_comes 5 := ⟨gw_of 668 (by decide +kernel) (by decide +kernel), gw_of 88 (by decide +kernel) (by decide +kernel), by decide +kernel, by decide +kernel, by decide +kernel⟩
theorem viX5_comes : Cond.instanceMethod yX5_comes ∈ gw := gw_of 667 (by decide +kernel) (by decide +kernel)
theorem vsX5_comes : Cond.selects RX5 yX5_comes yX5_comes ∈ gw := gw_of 51 (by decide +kernel) (by decide +kernel)
abbrev mX5_count : MD := (yX5_count, cX5_count, 2, (some .int), { frames := 3, cells := 0, slots := 0, locals := 67 })
theorem vX5_count : VM mX5_count 1 := ⟨gw_of 811 (by decide +kernel) (by decide +kernel), gw_of 88 (by decide +kernel) (by decide +kernel), by decide +kernel, by decide +kernel, by decide +kernel⟩
theorem viX5_count : Cond.instanceMethod yX5_count ∈ gw := gw_of 809 (by decide +kernel) (by decide +kernel)
theorem vsX5_count : Cond.selects RX5 yX5_count yX5_count ∈ gw := gw_of 810 (by decide +kernel) (by decide +kernel)
abbrev mX5_fallAsleep : MD := (yX5_fallAsleep, cX5_fallAsleep, 3, none, { frames := 2, cells := 0, slots := 0, locals := 44 })
theorem vX5_fallAsleep : VM mX5_fallAsleep 0 := ⟨gw_of 783 (by decide +kernel) (by decide +kernel), gw_of 88 (by decide +kernel) (by decide +kernel), by decide +kernel, by decide +kernel, by decide +kernel⟩
theorem viX5_fallAsleep : Cond.instanceMethod yX5_fallAsleep ∈ gw := gw_of 782 (by decide +kernel) (by decide +kernel)
theorem vsX5_fallAsleep : Cond.selects RX5 yX5_fallAsleep yX5_fallAsleep ∈ gw := gw_of 73 (by decide +kernel) (by decide +kernel)
abbrev mX5_fault : MD := (yX5_fault, cX5_fault, 1, (some .int), { frames := 5, cells := 0, slots := 0, locals := 111 })
theorem vX5_fault : VM mX5_fault 0 := ⟨gw_of 856 (by decide +kernel) (by decide +kernel), gw_of 88 (by decide +kernel) (by decide +kernel), by decide +kernel, by decide +kernel, by decide +kernel⟩
theorem viX5_fault : Cond.instanceMethod yX5_fault ∈ gw := gw_of 854 (by decide +kernel) (by decide +kernel)
theorem vsX5_fault : Cond.selects RX5 yX5_fault yX5_fault ∈ gw := gw_of 855 (by decide +kernel) (by decide +kernel)
abbrev mX5_findFault : MD := (yX5_findFault, cX5_findFault, 2, (some .int), { frames := 4, cells := 0, slots := 0, locals := 90 })
theorem vX5_findFault : VM mX5_findFault 0 := ⟨gw_of 680 (by decide +kernel) (by decide +kernel), gw_of 88 (by decide +kernel) (by decide +kernel), by decide +kernel, by decide +kernel, by decide +kernel⟩
theorem viX5_findFault : Cond.instanceMethod yX5_findFault ∈ gw := gw_of 679 (by decide +kernel) (by decide +kernel)
theorem vsX5_findFault : Cond.selects RX5 yX5_findFault yX5_findFault ∈ gw := gw_of 53 (by decide +kernel) (by decide +kernel)
abbrev mX5_ifPassed : MD := (yX5_ifPassed, cX5_ifPassed, 5, (some .int), { frames := 7, cells := 0, slots := 0, locals := 152 })
theorem vX5_ifPassed : VM mX5_ifPassed 2 := ⟨gw_of 819 (by decide +kernel) (by decide +kernel), gw_of 88 (by decide +kernel) (by decide +kernel), by decide +kernel, by decide +kernel, by decide +kernel⟩
theorem viX5_ifPassed : Cond.instanceMethod yX5_ifPassed ∈ gw := gw_of 817 (by decide +kernel) (by decide +kernel)
theorem vsX5_ifPassed : Cond.selects RX5 yX5_ifPassed yX5_ifPassed ∈ gw := gw_of 818 (by decide +kernel) (by decide +kernel)
abbrev mX5_init : MD := (yX5_init, cX5_init, 1, none, { frames := 1, cells := 8, slots := 1042, locals := 22 })
theorem vX5_init : VM mX5_init 0 := ⟨gw_of 593 (by decide +kernel) (by decide +kernel), gw_of 88 (by decide +kernel) (by decide +kernel), by decide +kernel, by decide +kernel, by decide +kernel⟩
theorem viX5_init : Cond.instanceMethod yX5_init ∈ gw := gw_of 592 (by decide +kernel) (by decide +kernel)
abbrev mX5_is : MD := (yX5_is, cX5_is, 3, (some .boolean), { frames := 1, cells := 0, slots := 0, locals := 22 })
theorem vX5_is : VM mX5_is 2 := ⟨gw_of 728 (by decide +kernel) (by decide +kernel), gw_of 88 (by decide +kernel) (by decide +kernel), by decide +kernel, by decide +kernel, by decide +kernel⟩
theorem viX5_is : Cond.instanceMethod yX5_is ∈ gw := gw_of 727 (by decide +kernel) (by decide +kernel)
theorem vsX5_is : Cond.selects RX5 yX5_is yX5_is ∈ gw := gw_of 63 (by decide +kernel) (by decide +kernel)
abbrev mX5_isIsland : MD := (yX5_isIsland, cX5_isIsland, 2, (some .boolean), { frames := 1, cells := 0, slots := 0, locals := 22 })
theorem vX5_isIsland : VM mX5_isIsland 1 := ⟨gw_of 712 (by decide +kernel) (by decide +kernel), gw_of 88 (by decide +kernel) (by decide +kernel), by decide +kernel, by decide +kernel, by decide +kernel⟩
theorem viX5_isIsland : Cond.instanceMethod yX5_isIsland ∈ gw := gw_of 711 (by decide +kernel) (by decide +kernel)
theorem vsX5_isIsland : Cond.selects RX5 yX5_isIsland yX5_isIsland ∈ gw := gw_of 60 (by decide +kernel) (by decide +kernel)
abbrev mX5_isNext : MD := (yX5_isNext, cX5_isNext, 3, (some .boolean), { frames := 1, cells := 0, slots := 0, locals := 21 })
theorem vX5_isNext : VM mX5_isNext 1 := ⟨gw_of 688 (by decide +kernel) (by decide +kernel), gw_of 88 (by decide +kernel) (by decide +kernel), by decide +kernel, by decide +kernel, by decide +kernel⟩
theorem viX5_isNext : Cond.instanceMethod yX5_isNext ∈ gw := gw_of 687 (by decide +kernel) (by decide +kernel)
theorem vsX5_isNext : Cond.selects RX5 yX5_isNext yX5_isNext ∈ gw := gw_of 55 (by decide +kernel) (by decide +kernel)
abbrev mX5_isSure : MD := (yX5_isSure, cX5_isSure, 2, (some .boolean), { frames := 2, cells := 0, slots := 0, locals := 44 })
theorem vX5_isSure : VM mX5_isSure 1 := ⟨gw_of 779 (by decide +kernel) (by decide +kernel), gw_of 88 (by decide +kernel) (by decide +kernel), by decide +kernel, by decide +kernel, by decide +kernel⟩
theorem viX5_isSure : Cond.instanceMethod yX5_isSure ∈ gw := gw_of 778 (by decide +kernel) (by decide +kernel)
theorem vsX5_isSure : Cond.selects RX5 yX5_isSure yX5_isSure ∈ gw := gw_of 72 (by decide +kernel) (by decide +kernel)
abbrev mX5_isValue : MD := (yX5_isValue, cX5_isValue, 2, (some .boolean), { frames := 1, cells := 0, slots := 0, locals := 22 })
theorem vX5_isValue : VM mX5_isValue 2 := ⟨gw_of 650 (by decide +kernel) (by decide +kernel), gw_of 88 (by decide +kernel) (by decide +kernel), by decide +kernel, by decide +kernel, by decide +kernel⟩
theorem vtX5_isValue : Cond.static yX5_isValue ∈ gw := gw_of 649 (by decide +kernel) (by decide +kernel)
abbrev mX5_leastCurrent : MD := (yX5_leastCurrent, cX5_leastCurrent, 4, (some .int), { frames := 7, cells := 0, slots := 0, locals := 152 })
theorem vX5_leastCurrent : VM mX5_leastCurrent 1 := ⟨gw_of 839 (by decide +kernel) (by decide +kernel), gw_of 88 (by decide +kernel) (by decide +kernel), by decide +kernel, by decide +kernel, by decide +kernel⟩
theorem viX5_leastCurrent : Cond.instanceMethod yX5_leastCurrent ∈ gw := gw_of 837 (by decide +kernel) (by decide +kernel)
theorem vsX5_leastCurrent : Cond.selects RX5 yX5_leastCurrent yX5_leastCurrent ∈ gw := gw_of 838 (by decide +kernel) (by decide +kernel)
abbrev mX5_letRise : MD := (yX5_letRise, cX5_letRise, 5, none, { frames := 3, cells := 0, slots := 0, locals := 66 })
theorem vX5_letRise : VM mX5_letRise 0 := ⟨gw_of 795 (by decide +kernel) (by decide +kernel), gw_of 88 (by decide +kernel) (by decide +kernel), by decide +kernel, by decide +kernel, by decide +kernel⟩
theorem viX5_letRise : Cond.instanceMethod yX5_letRise ∈ gw := gw_of 794 (by decide +kernel) (by decide +kernel)
theorem vsX5_letRise : Cond.selects RX5 yX5_letRise yX5_letRise ∈ gw := gw_of 76 (by decide +kernel) (by decide +kernel)
abbrev mX5_link : MD := (yX5_link, cX5_link, 4, (some .int), { frames := 2, cells := 0, slots := 0, locals := 45 })
theorem vX5_link : VM mX5_link 3 := ⟨gw_of 708 (by decide +kernel) (by decide +kernel), gw_of 88 (by decide +kernel) (by decide +kernel), by decide +kernel, by decide +kernel, by decide +kernel⟩
theorem viX5_link : Cond.instanceMethod yX5_link ∈ gw := gw_of 706 (by decide +kernel) (by decide +kernel)
theorem vsX5_link : Cond.selects RX5 yX5_link yX5_link ∈ gw := gw_of 707 (by decide +kernel) (by decide +kernel)
abbrev mX5_moves : MD := (yX5_moves, cX5_moves, 5, none, { frames := 0, cells := 0, slots := 0, locals := 0 })
theorem vX5_moves : VM mX5_moves 4 := ⟨gw_of 660 (by decide +kernel) (by decide +kernel), gw_of 88 (by decide +kernel) (by decide +kernel), by decide +kernel, by decide +kernel, by decide +kernel⟩
theorem vtX5_moves : Cond.static yX5_moves ∈ gw := gw_of 659 (by decide +kernel) (by decide +kernel)
abbrev mX5_newValues : MD := (yX5_newValues, cX5_newValues, 4, none, { frames := 4, cells := 0, slots := 0, locals := 86 })
theorem vX5_newValues : VM mX5_newValues 0 := ⟨gw_of 771 (by decide +kernel) (by decide +kernel), gw_of 88 (by decide +kernel) (by decide +kernel), by decide +kernel, by decide +kernel, by decide +kernel⟩
theorem viX5_newValues : Cond.instanceMethod yX5_newValues ∈ gw := gw_of 770 (by decide +kernel) (by decide +kernel)
theorem vsX5_newValues : Cond.selects RX5 yX5_newValues yX5_newValues ∈ gw := gw_of 70 (by decide +kernel) (by decide +kernel)
abbrev mX5_of : MD := (yX5_of, cX5_of, 3, (some .int), { frames := 4, cells := 0, slots := 0, locals := 86 })
theorem vX5_of : VM mX5_of 2 := ⟨gw_of 803 (by decide +kernel) (by decide +kernel), gw_of 88 (by decide +kernel) (by decide +kernel), by decide +kernel, by decide +kernel, by decide +kernel⟩
theorem viX5_of : Cond.instanceMethod yX5_of ∈ gw := gw_of 801 (by decide +kernel) (by decide +kernel)
theorem vsX5_of : Cond.selects RX5 yX5_of yX5_of ∈ gw := gw_of 802 (by decide +kernel) (by decide +kernel)
abbrev mX5_part : MD := (yX5_part, cX5_part, 3, (some .int), { frames := 0, cells := 0, slots := 0, locals := 0 })
theorem vX5_part : VM mX5_part 2 := ⟨gw_of 720 (by decide +kernel) (by decide +kernel), gw_of 88 (by decide +kernel) (by decide +kernel), by decide +kernel, by decide +kernel, by decide +kernel⟩
theorem viX5_part : Cond.instanceMethod yX5_part ∈ gw := gw_of 719 (by decide +kernel) (by decide +kernel)
theorem vsX5_part : Cond.selects RX5 yX5_part yX5_part ∈ gw := gw_of 62 (by decide +kernel) (by decide +kernel)
abbrev mX5_pass : MD := (yX5_pass, cX5_pass, 2, (some .int), { frames := 7, cells := 0, slots := 0, locals := 152 })
theorem vX5_pass : VM mX5_pass 1 := ⟨gw_of 759 (by decide +kernel) (by decide +kernel), gw_of 88 (by decide +kernel) (by decide +kernel), by decide +kernel, by decide +kernel, by decide +kernel⟩
theorem viX5_pass : Cond.instanceMethod yX5_pass ∈ gw := gw_of 757 (by decide +kernel) (by decide +kernel)
theorem vsX5_pass : Cond.selects RX5 yX5_pass yX5_pass ∈ gw := gw_of 758 (by decide +kernel) (by decide +kernel)
abbrev mX5_passes : MD := (yX5_passes, cX5_passes, 4, (some .int), { frames := 6, cells := 0, slots := 0, locals := 129 })
theorem vX5_passes : VM mX5_passes 1 := ⟨gw_of 763 (by decide +kernel) (by decide +kernel), gw_of 88 (by decide +kernel) (by decide +kernel), by decide +kernel, by decide +kernel, by decide +kernel⟩
theorem viX5_passes : Cond.instanceMethod yX5_passes ∈ gw := gw_of 762 (by decide +kernel) (by decide +kernel)
theorem vsX5_passes : Cond.selects RX5 yX5_passes yX5_passes ∈ gw := gw_of 68 (by decide +kernel) (by decide +kernel)
abbrev mX5_placeOf : MD := (yX5_placeOf, cX5_placeOf, 4, (some .int), { frames := 0, cells := 0, slots := 0, locals := 0 })
theorem vX5_placeOf : VM mX5_placeOf 1 := ⟨gw_of 807 (by decide +kernel) (by decide +kernel), gw_of 88 (by decide +kernel) (by decide +kernel), by decide +kernel, by decide +kernel, by decide +kernel⟩
theorem viX5_placeOf : Cond.instanceMethod yX5_placeOf ∈ gw := gw_of 806 (by decide +kernel) (by decide +kernel)
theorem vsX5_placeOf : Cond.selects RX5 yX5_placeOf yX5_placeOf ∈ gw := gw_of 78 (by decide +kernel) (by decide +kernel)
abbrev mX5_put : MD := (yX5_put, cX5_put, 8, (some .int), { frames := 1, cells := 0, slots := 0, locals := 22 })
theorem vX5_put : VM mX5_put 1 := ⟨gw_of 847 (by decide +kernel) (by decide +kernel), gw_of 88 (by decide +kernel) (by decide +kernel), by decide +kernel, by decide +kernel, by decide +kernel⟩
theorem viX5_put : Cond.instanceMethod yX5_put ∈ gw := gw_of 845 (by decide +kernel) (by decide +kernel)
theorem vsX5_put : Cond.selects RX5 yX5_put yX5_put ∈ gw := gw_of 846 (by decide +kernel) (by decide +kernel)
abbrev mX5_quiet : MD := (yX5_quiet, cX5_quiet, 4, (some .int), { frames := 7, cells := 0, slots := 0, locals := 152 })
theorem vX5_quiet : VM mX5_quiet 1 := ⟨gw_of 843 (by decide +kernel) (by decide +kernel), gw_of 88 (by decide +kernel) (by decide +kernel), by decide +kernel, by decide +kernel, by decide +kernel⟩
theorem viX5_quiet : Cond.instanceMethod yX5_quiet ∈ gw := gw_of 841 (by decide +kernel) (by decide +kernel)
theorem vsX5_quiet : Cond.selects RX5 yX5_quiet yX5_quiet ∈ gw := gw_of 842 (by decide +kernel) (by decide +kernel)
abbrev mX5_read : MD := (yX5_read, cX5_read, 3, (some .int), { frames := 5, cells := 0, slots := 0, locals := 112 })
theorem vX5_read : VM mX5_read 0 := ⟨gw_of 676 (by decide +kernel) (by decide +kernel), gw_of 88 (by decide +kernel) (by decide +kernel), by decide +kernel, by decide +kernel, by decide +kernel⟩
theorem viX5_read : Cond.instanceMethod yX5_read ∈ gw := gw_of 674 (by decide +kernel) (by decide +kernel)
theorem vsX5_read : Cond.selects RX5 yX5_read yX5_read ∈ gw := gw_of 675 (by decide +kernel) (by decide +kernel)
abbrev mX5_readersOf : MD := (yX5_readersOf, cX5_readersOf, 4, (some .int), { frames := 2, cells := 0, slots := 0, locals := 44 })
theorem vX5_readersOf : VM mX5_readersOf 1 := ⟨gw_of 740 (by decide +kernel) (by decide +kernel), gw_of 88 (by decide +kernel) (by decide +kernel), by decide +kernel, by decide +kernel, by decide +kernel⟩
theorem viX5_readersOf : Cond.instanceMethod yX5_readersOf ∈ gw := gw_of 739 (by decide +kernel) (by decide +kernel)
theorem vsX5_readersOf : Cond.selects RX5 yX5_readersOf yX5_readersOf ∈ gw := gw_of 65 (by decide +kernel) (by decide +kernel)
abbrev mX5_reads : MD := (yX5_reads, cX5_reads, 3, (some .boolean), { frames := 1, cells := 0, slots := 0, locals := 22 })
theorem vX5_reads : VM mX5_reads 2 := ⟨gw_of 716 (by decide +kernel) (by decide +kernel), gw_of 88 (by decide +kernel) (by decide +kernel), by decide +kernel, by decide +kernel, by decide +kernel⟩
theorem viX5_reads : Cond.instanceMethod yX5_reads ∈ gw := gw_of 715 (by decide +kernel) (by decide +kernel)
theorem vsX5_reads : Cond.selects RX5 yX5_reads yX5_reads ∈ gw := gw_of 61 (by decide +kernel) (by decide +kernel)
abbrev mX5_readsIsland : MD := (yX5_readsIsland, cX5_readsIsland, 4, (some .boolean), { frames := 3, cells := 0, slots := 0, locals := 67 })
theorem vX5_readsIsland : VM mX5_readsIsland 1 := ⟨gw_of 684 (by decide +kernel) (by decide +kernel), gw_of 88 (by decide +kernel) (by decide +kernel), by decide +kernel, by decide +kernel, by decide +kernel⟩
theorem viX5_readsIsland : Cond.instanceMethod yX5_readsIsland ∈ gw := gw_of 683 (by decide +kernel) (by decide +kernel)
theorem vsX5_readsIsland : Cond.selects RX5 yX5_readsIsland yX5_readsIsland ∈ gw := gw_of 54 (by decide +kernel) (by decide +kernel)
abbrev mX5_record : MD := (yX5_record, cX5_record, 2, none, { frames := 1, cells := 0, slots := 0, locals := 24 })
theorem vX5_record : VM mX5_record 0 := ⟨gw_of 657 (by decide +kernel) (by decide +kernel), gw_of 88 (by decide +kernel) (by decide +kernel), by decide +kernel, by decide +kernel, by decide +kernel⟩
theorem viX5_record : Cond.instanceMethod yX5_record ∈ gw := gw_of 656 (by decide +kernel) (by decide +kernel)
theorem vsX5_record : Cond.selects RX5 yX5_record yX5_record ∈ gw := gw_of 50 (by decide +kernel) (by decide +kernel)
abbrev mX5_restore : MD := (yX5_restore, cX5_restore, 2, (some .int), { frames := 2, cells := 0, slots := 0, locals := 45 })
theorem vX5_restore : VM mX5_restore 1 := ⟨gw_of 868 (by decide +kernel) (by decide +kernel), gw_of 88 (by decide +kernel) (by decide +kernel), by decide +kernel, by decide +kernel, by decide +kernel⟩
theorem viX5_restore : Cond.instanceMethod yX5_restore ∈ gw := gw_of 866 (by decide +kernel) (by decide +kernel)
theorem vsX5_restore : Cond.selects RX5 yX5_restore yX5_restore ∈ gw := gw_of 867 (by decide +kernel) (by decide +kernel)
abbrev mX5_riseOn : MD := (yX5_riseOn, cX5_riseOn, 2, none, { frames := 2, cells := 0, slots := 0, locals := 44 })
theorem vX5_riseOn : VM mX5_riseOn 0 := ⟨gw_of 787 (by decide +kernel) (by decide +kernel), gw_of 88 (by decide +kernel) (by decide +kernel), by decide +kernel, by decide +kernel, by decide +kernel⟩
theorem viX5_riseOn : Cond.instanceMethod yX5_riseOn ∈ gw := gw_of 786 (by decide +kernel) (by decide +kernel)
theorem vsX5_riseOn : Cond.selects RX5 yX5_riseOn yX5_riseOn ∈ gw := gw_of 74 (by decide +kernel) (by decide +kernel)
abbrev mX5_risingLoad : MD := (yX5_risingLoad, cX5_risingLoad, 3, (some .int), { frames := 2, cells := 0, slots := 0, locals := 44 })
theorem vX5_risingLoad : VM mX5_risingLoad 0 := ⟨gw_of 799 (by decide +kernel) (by decide +kernel), gw_of 88 (by decide +kernel) (by decide +kernel), by decide +kernel, by decide +kernel, by decide +kernel⟩
theorem viX5_risingLoad : Cond.instanceMethod yX5_risingLoad ∈ gw := gw_of 798 (by decide +kernel) (by decide +kernel)
theorem vsX5_risingLoad : Cond.selects RX5 yX5_risingLoad yX5_risingLoad ∈ gw := gw_of 77 (by decide +kernel) (by decide +kernel)
abbrev mX5_save : MD := (yX5_save, cX5_save, 2, (some .int), { frames := 1, cells := 0, slots := 0, locals := 24 })
theorem vX5_save : VM mX5_save 1 := ⟨gw_of 864 (by decide +kernel) (by decide +kernel), gw_of 88 (by decide +kernel) (by decide +kernel), by decide +kernel, by decide +kernel, by decide +kernel⟩
theorem viX5_save : Cond.instanceMethod yX5_save ∈ gw := gw_of 862 (by decide +kernel) (by decide +kernel)
theorem vsX5_save : Cond.selects RX5 yX5_save yX5_save ∈ gw := gw_of 863 (by decide +kernel) (by decide +kernel)
abbrev mX5_set : MD := (yX5_set, cX5_set, 4, (some .int), { frames := 2, cells := 0, slots := 0, locals := 45 })
theorem vX5_set : VM mX5_set 2 := ⟨gw_of 647 (by decide +kernel) (by decide +kernel), gw_of 88 (by decide +kernel) (by decide +kernel), by decide +kernel, by decide +kernel, by decide +kernel⟩
theorem viX5_set : Cond.instanceMethod yX5_set ∈ gw := gw_of 645 (by decide +kernel) (by decide +kernel)
theorem vsX5_set : Cond.selects RX5 yX5_set yX5_set ∈ gw := gw_of 646 (by decide +kernel) (by decide +kernel)
abbrev mX5_setOf : MD := (yX5_setOf, cX5_setOf, 4, (some .int), { frames := 2, cells := 0, slots := 0, locals := 44 })
theorem vX5_setOf : VM mX5_setOf 1 := ⟨gw_of 744 (by decide +kernel) (by decide +kernel), gw_of 88 (by decide +kernel) (by decide +kernel), by decide +kernel, by decide +kernel, by decide +kernel⟩
theorem viX5_setOf : Cond.instanceMethod yX5_setOf ∈ gw := gw_of 743 (by decide +kernel) (by decide +kernel)
theorem vsX5_setOf : Cond.selects RX5 yX5_setOf yX5_setOf ∈ gw := gw_of 66 (by decide +kernel) (by decide +kernel)
abbrev mX5_setPart : MD := (yX5_setPart, cX5_setPart, 4, none, { frames := 0, cells := 0, slots := 0, locals := 0 })
theorem vX5_setPart : VM mX5_setPart 3 := ⟨gw_of 672 (by decide +kernel) (by decide +kernel), gw_of 88 (by decide +kernel) (by decide +kernel), by decide +kernel, by decide +kernel, by decide +kernel⟩
theorem viX5_setPart : Cond.instanceMethod yX5_setPart ∈ gw := gw_of 671 (by decide +kernel) (by decide +kernel)
theorem vsX5_setPart : Cond.selects RX5 yX5_setPart yX5_setPart ∈ gw := gw_of 52 (by decide +kernel) (by decide +kernel)
abbrev mX5_sleep : MD := (yX5_sleep, cX5_sleep, 2, (some .int), { frames := 4, cells := 0, slots := 0, locals := 88 })
theorem vX5_sleep : VM mX5_sleep 1 := ⟨gw_of 732 (by decide +kernel) (by decide +kernel), gw_of 88 (by decide +kernel) (by decide +kernel), by decide +kernel, by decide +kernel, by decide +kernel⟩
theorem viX5_sleep : Cond.instanceMethod yX5_sleep ∈ gw := gw_of 730 (by decide +kernel) (by decide +kernel)
theorem vsX5_sleep : Cond.selects RX5 yX5_sleep yX5_sleep ∈ gw := gw_of 731 (by decide +kernel) (by decide +kernel)
abbrev mX5_takeDigit : MD := (yX5_takeDigit, cX5_takeDigit, 4, (some .int), { frames := 1, cells := 0, slots := 0, locals := 22 })
theorem vX5_takeDigit : VM mX5_takeDigit 2 := ⟨gw_of 696 (by decide +kernel) (by decide +kernel), gw_of 88 (by decide +kernel) (by decide +kernel), by decide +kernel, by decide +kernel, by decide +kernel⟩
theorem viX5_takeDigit : Cond.instanceMethod yX5_takeDigit ∈ gw := gw_of 695 (by decide +kernel) (by decide +kernel)
theorem vsX5_takeDigit : Cond.selects RX5 yX5_takeDigit yX5_takeDigit ∈ gw := gw_of 57 (by decide +kernel) (by decide +kernel)
abbrev mX5_takeLoad : MD := (yX5_takeLoad, cX5_takeLoad, 3, (some .int), { frames := 2, cells := 0, slots := 0, locals := 45 })
theorem vX5_takeLoad : VM mX5_takeLoad 0 := ⟨gw_of 700 (by decide +kernel) (by decide +kernel), gw_of 88 (by decide +kernel) (by decide +kernel), by decide +kernel, by decide +kernel, by decide +kernel⟩
theorem viX5_takeLoad : Cond.instanceMethod yX5_takeLoad ∈ gw := gw_of 699 (by decide +kernel) (by decide +kernel)
theorem vsX5_takeLoad : Cond.selects RX5 yX5_takeLoad yX5_takeLoad ∈ gw := gw_of 58 (by decide +kernel) (by decide +kernel)
abbrev mX5_tellsNow : MD := (yX5_tellsNow, cX5_tellsNow, 2, (some .int), { frames := 3, cells := 0, slots := 0, locals := 65 })
theorem vX5_tellsNow : VM mX5_tellsNow 1 := ⟨gw_of 775 (by decide +kernel) (by decide +kernel), gw_of 88 (by decide +kernel) (by decide +kernel), by decide +kernel, by decide +kernel, by decide +kernel⟩
theorem viX5_tellsNow : Cond.instanceMethod yX5_tellsNow ∈ gw := gw_of 774 (by decide +kernel) (by decide +kernel)
theorem vsX5_tellsNow : Cond.selects RX5 yX5_tellsNow yX5_tellsNow ∈ gw := gw_of 71 (by decide +kernel) (by decide +kernel)
abbrev mX5_tick : MD := (yX5_tick, cX5_tick, 1, none, { frames := 5, cells := 0, slots := 0, locals := 109 })
theorem vX5_tick : VM mX5_tick 0 := ⟨gw_of 767 (by decide +kernel) (by decide +kernel), gw_of 88 (by decide +kernel) (by decide +kernel), by decide +kernel, by decide +kernel, by decide +kernel⟩
theorem viX5_tick : Cond.instanceMethod yX5_tick ∈ gw := gw_of 766 (by decide +kernel) (by decide +kernel)
theorem vsX5_tick : Cond.selects RX5 yX5_tick yX5_tick ∈ gw := gw_of 69 (by decide +kernel) (by decide +kernel)
abbrev mX5_toldMany : MD := (yX5_toldMany, cX5_toldMany, 3, (some .int), { frames := 4, cells := 0, slots := 0, locals := 90 })
theorem vX5_toldMany : VM mX5_toldMany 0 := ⟨gw_of 704 (by decide +kernel) (by decide +kernel), gw_of 88 (by decide +kernel) (by decide +kernel), by decide +kernel, by decide +kernel, by decide +kernel⟩
theorem viX5_toldMany : Cond.instanceMethod yX5_toldMany ∈ gw := gw_of 703 (by decide +kernel) (by decide +kernel)
theorem vsX5_toldMany : Cond.selects RX5 yX5_toldMany yX5_toldMany ∈ gw := gw_of 59 (by decide +kernel) (by decide +kernel)
abbrev mX5_undo : MD := (yX5_undo, cX5_undo, 1, (some .int), { frames := 1, cells := 0, slots := 0, locals := 24 })
theorem vX5_undo : VM mX5_undo 0 := ⟨gw_of 860 (by decide +kernel) (by decide +kernel), gw_of 88 (by decide +kernel) (by decide +kernel), by decide +kernel, by decide +kernel, by decide +kernel⟩
theorem viX5_undo : Cond.instanceMethod yX5_undo ∈ gw := gw_of 858 (by decide +kernel) (by decide +kernel)
theorem vsX5_undo : Cond.selects RX5 yX5_undo yX5_undo ∈ gw := gw_of 859 (by decide +kernel) (by decide +kernel)
abbrev mX5_value : MD := (yX5_value, cX5_value, 4, (some .int), { frames := 2, cells := 0, slots := 0, locals := 45 })
theorem vX5_value : VM mX5_value 2 := ⟨gw_of 724 (by decide +kernel) (by decide +kernel), gw_of 88 (by decide +kernel) (by decide +kernel), by decide +kernel, by decide +kernel, by decide +kernel⟩
theorem viX5_value : Cond.instanceMethod yX5_value ∈ gw := gw_of 722 (by decide +kernel) (by decide +kernel)
theorem vsX5_value : Cond.selects RX5 yX5_value yX5_value ∈ gw := gw_of 723 (by decide +kernel) (by decide +kernel)
abbrev mX5_waiting : MD := (yX5_waiting, cX5_waiting, 2, (some .int), { frames := 1, cells := 0, slots := 0, locals := 22 })
theorem vX5_waiting : VM mX5_waiting 1 := ⟨gw_of 815 (by decide +kernel) (by decide +kernel), gw_of 88 (by decide +kernel) (by decide +kernel), by decide +kernel, by decide +kernel, by decide +kernel⟩
theorem viX5_waiting : Cond.instanceMethod yX5_waiting ∈ gw := gw_of 813 (by decide +kernel) (by decide +kernel)
theorem vsX5_waiting : Cond.selects RX5 yX5_waiting yX5_waiting ∈ gw := gw_of 814 (by decide +kernel) (by decide +kernel)
abbrev mX5_waitsNow : MD := (yX5_waitsNow, cX5_waitsNow, 2, none, { frames := 1, cells := 0, slots := 0, locals := 23 })
theorem vX5_waitsNow : VM mX5_waitsNow 1 := ⟨gw_of 755 (by decide +kernel) (by decide +kernel), gw_of 88 (by decide +kernel) (by decide +kernel), by decide +kernel, by decide +kernel, by decide +kernel⟩
theorem viX5_waitsNow : Cond.instanceMethod yX5_waitsNow ∈ gw := gw_of 754 (by decide +kernel) (by decide +kernel)
theorem vsX5_waitsNow : Cond.selects RX5 yX5_waitsNow yX5_waitsNow ∈ gw := gw_of 67 (by decide +kernel) (by decide +kernel)
abbrev mX5_wake : MD := (yX5_wake, cX5_wake, 2, (some .int), { frames := 2, cells := 0, slots := 0, locals := 45 })
theorem vX5_wake : VM mX5_wake 1 := ⟨gw_of 751 (by decide +kernel) (by decide +kernel), gw_of 88 (by decide +kernel) (by decide +kernel), by decide +kernel, by decide +kernel, by decide +kernel⟩
theorem viX5_wake : Cond.instanceMethod yX5_wake ∈ gw := gw_of 749 (by decide +kernel) (by decide +kernel)
theorem vsX5_wake : Cond.selects RX5 yX5_wake yX5_wake ∈ gw := gw_of 750 (by decide +kernel) (by decide +kernel)
abbrev mX5_wipe : MD := (yX5_wipe, cX5_wipe, 2, (some .int), { frames := 0, cells := 0, slots := 0, locals := 0 })
theorem vX5_wipe : VM mX5_wipe 0 := ⟨gw_of 852 (by decide +kernel) (by decide +kernel), gw_of 88 (by decide +kernel) (by decide +kernel), by decide +kernel, by decide +kernel, by decide +kernel⟩
theorem viX5_wipe : Cond.instanceMethod yX5_wipe ∈ gw := gw_of 850 (by decide +kernel) (by decide +kernel)
theorem vsX5_wipe : Cond.selects RX5 yX5_wipe yX5_wipe ∈ gw := gw_of 851 (by decide +kernel) (by decide +kernel)
abbrev mX5_within : MD := (yX5_within, cX5_within, 3, (some .boolean), { frames := 0, cells := 0, slots := 0, locals := 0 })
theorem vX5_within : VM mX5_within 3 := ⟨gw_of 653 (by decide +kernel) (by decide +kernel), gw_of 88 (by decide +kernel) (by decide +kernel), by decide +kernel, by decide +kernel, by decide +kernel⟩
theorem vtX5_within : Cond.static yX5_within ∈ gw := gw_of 652 (by decide +kernel) (by decide +kernel)
/-- a contract with one outcome -/
def CtF (l : Launch) (E : EE) (M : MD) (av : List Value) (N : Nat) (I : Mi) (F : Mr) (N2 : Nat) (r : Option Value) (I2 : Mi) (F2 : Mr) : Prop := Ct l E M av N I F N2 (fun r9 I9 F9 => r9 = r ∧ I9 = I2 ∧ F9 = F2)
section LK
variable {E : EE} {N nL : Nat} {cc : ByteArray} {p : Program} {l : Launch} {e : Env} {R : Room} {s : State} {m : MethodId} {args : Array Value} {below : List Frame} {meth : Method} {c : Code} {cells slots : Nat} {Q : State → Prop} {I I2 : Mi} {F F2 : Mr} {pc : Nat} {ls : List (Option Value)} {st : List Value}
theorem lkX4_10 : Cond.fieldLink RX4 10 "SleepingIslands" "chip" "LSleepingIslands$Chip;" ∈ gw := gw_of 255 (by decide +kernel) (by decide +kernel)
theorem gfX4_10 (C : Cx E RX4 cc nL p s m args meth c) {k t : Nat} (h0 : ob N k 4) (hF : F k 0 = some t) (d : decode cc pc = .ok (.getfield 10, 3)) (kk : G E N nL p l e R s m args below meth c cells slots Q I F (pc + 3) ls (rf E t :: st)) : G E N nL p l e R s m args below meth c cells slots Q I F pc ls (rf E k :: st) := g_get0 C (q := 4) (CN := RX4) (T := TX4) (nf := 8) (j := 0) rfl inX4 (by decide) lkX4_10 rfl h0.2 h0.1 (by decide) (v := rf E t) ((show _ = some (rr (pb E) (F k 0)) from rfl).trans (by rw [hF]; rfl)) d kk
theorem pfX4_10 (C : Cx E RX4 cc nL p s m args meth c) (hini : meth.name = "<init>") {k t : Nat} (h0 : ob N k 4) (d : decode cc pc = .ok (.putfield 10, 3)) (kk : G E N nL p l e R s m args below meth c cells slots Q I (ur F k 0 (some t)) (pc + 3) ls st) : G E N nL p l e R s m args below meth c cells slots Q I F pc ls (rf E t :: rf E k :: st) := g_putF0 C (q := 4) (CN := RX4) (T := TX4) (nf := 8) (j := 0) rfl inX4 (by decide) lkX4_10 rfl h0.2 h0.1 (by decide) rfl hini rfl tyX4 tyX4_ok nmX4 (by decide) (v := rf E t) (I2 := I) (F2 := ur F k 0 (some t)) rfl rfl (fl_ur rfl) (fun y hy => ⟨rfl, ur_ne hy⟩) d kk
theorem lkX4_16 : Cond.fieldLink RX4 16 "SleepingIslands" "trial" "LSleepingIslands$Chip;" ∈ gw := gw_of 256 (by decide +kernel) (by decide +kernel)
theorem gfX4_16 (C : Cx E RX4 cc nL p s m args meth c) {k t : Nat} (h0 : ob N k 4) (hF : F k 1 = some t) (d : decode cc pc = .ok (.getfield 16, 3)) (kk : G E N nL p l e R s m args below meth c cells slots Q I F (pc + 3) ls (rf E t :: st)) : G E N nL p l e R s m args below meth c cells slots Q I F pc ls (rf E k :: st) := g_get0 C (q := 4) (CN := RX4) (T := TX4) (nf := 8) (j := 1) rfl inX4 (by decide) lkX4_16 rfl h0.2 h0.1 (by decide) (v := rf E t) ((show _ = some (rr (pb E) (F k 1)) from rfl).trans (by rw [hF]; rfl)) d kk
theorem pfX4_16 (C : Cx E RX4 cc nL p s m args meth c) (hini : meth.name = "<init>") {k t : Nat} (h0 : ob N k 4) (d : decode cc pc = .ok (.putfield 16, 3)) (kk : G E N nL p l e R s m args below meth c cells slots Q I (ur F k 1 (some t)) (pc + 3) ls st) : G E N nL p l e R s m args below meth c cells slots Q I F pc ls (rf E t :: rf E k :: st) := g_putF0 C (q := 4) (CN := RX4) (T := TX4) (nf := 8) (j := 1) rfl inX4 (by decide) lkX4_16 rfl h0.2 h0.1 (by decide) rfl hini rfl tyX4 tyX4_ok nmX4 (by decide) (v := rf E t) (I2 := I) (F2 := ur F k 1 (some t)) rfl rfl (fl_ur rfl) (fun y hy => ⟨rfl, ur_ne hy⟩) d kk
theorem lkX4_22 : Cond.fieldLink RX4 22 "SleepingIslands" "pad" "LSleepingIslands$Pad;" ∈ gw := gw_of 257 (by decide +kernel) (by decide +kernel)
theorem gfX4_22 (C : Cx E RX4 cc nL p s m args meth c) {k t : Nat} (h0 : ob N k 4) (hF : F k 2 = some t) (d : decode cc pc = .ok (.getfield 22, 3)) (kk : G E N nL p l e R s m args below meth c cells slots Q I F (pc + 3) ls (rf E t :: st)) : G E N nL p l e R s m args below meth c cells slots Q I F pc ls (rf E k :: st) := g_get0 C (q := 4) (CN := RX4) (T := TX4) (nf := 8) (j := 2) rfl inX4 (by decide) lkX4_22 rfl h0.2 h0.1 (by decide) (v := rf E t) ((show _ = some (rr (pb E) (F k 2)) from rfl).trans (by rw [hF]; rfl)) d kk
theorem pfX4_22 (C : Cx E RX4 cc nL p s m args meth c) (hini : meth.name = "<init>") {k t : Nat} (h0 : ob N k 4) (d : decode cc pc = .ok (.putfield 22, 3)) (kk : G E N nL p l e R s m args below meth c cells slots Q I (ur F k 2 (some t)) (pc + 3) ls st) : G E N nL p l e R s m args below meth c cells slots Q I F pc ls (rf E t :: rf E k :: st) := g_putF0 C (q := 4) (CN := RX4) (T := TX4) (nf := 8) (j := 2) rfl inX4 (by decide) lkX4_22 rfl h0.2 h0.1 (by decide) rfl hini rfl tyX4 tyX4_ok nmX4 (by decide) (v := rf E t) (I2 := I) (F2 := ur F k 2 (some t)) rfl rfl (fl_ur rfl) (fun y hy => ⟨rfl, ur_ne hy⟩) d kk
theorem lkX4_29 : Cond.fieldLink RX4 29 "SleepingIslands" "reader" "LSleepingIslands$ChipReader;" ∈ gw := gw_of 258 (by decide +kernel) (by decide +kernel)
theorem gfX4_29 (C : Cx E RX4 cc nL p s m args meth c) {k t : Nat} (h0 : ob N k 4) (hF : F k 3 = some t) (d : decode cc pc = .ok (.getfield 29, 3)) (kk : G E N nL p l e R s m args below meth c cells slots Q I F (pc + 3) ls (rf E t :: st)) : G E N nL p l e R s m args below meth c cells slots Q I F pc ls (rf E k :: st) := g_get0 C (q := 4) (CN := RX4) (T := TX4) (nf := 8) (j := 3) rfl inX4 (by decide) lkX4_29 rfl h0.2 h0.1 (by decide) (v := rf E t) ((show _ = some (rr (pb E) (F k 3)) from rfl).trans (by rw [hF]; rfl)) d kk
theorem pfX4_29 (C : Cx E RX4 cc nL p s m args meth c) (hini : meth.name = "<init>") {k t : Nat} (h0 : ob N k 4) (d : decode cc pc = .ok (.putfield 29, 3)) (kk : G E N nL p l e R s m args below meth c cells slots Q I (ur F k 3 (some t)) (pc + 3) ls st) : G E N nL p l e R s m args below meth c cells slots Q I F pc ls (rf E t :: rf E k :: st) := g_putF0 C (q := 4) (CN := RX4) (T := TX4) (nf := 8) (j := 3) rfl inX4 (by decide) lkX4_29 rfl h0.2 h0.1 (by decide) rfl hini rfl tyX4 tyX4_ok nmX4 (by decide) (v := rf E t) (I2 := I) (F2 := ur F k 3 (some t)) rfl rfl (fl_ur rfl) (fun y hy => ⟨rfl, ur_ne hy⟩) d kk
theorem lkX4_36 : Cond.fieldLink RX4 36 "SleepingIslands" "history" "LSleepingIslands$History;" ∈ gw := gw_of 259 (by decide +kernel) (by decide +kernel)
theorem gfX4_36 (C : Cx E RX4 cc nL p s m args meth c) {k t : Nat} (h0 : ob N k 4) (hF : F k 4 = some t) (d : decode cc pc = .ok (.getfield 36, 3)) (kk : G E N nL p l e R s m args below meth c cells slots Q I F (pc + 3) ls (rf E t :: st)) : G E N nL p l e R s m args below meth c cells slots Q I F pc ls (rf E k :: st) := g_get0 C (q := 4) (CN := RX4) (T := TX4) (nf := 8) (j := 4) rfl inX4 (by decide) lkX4_36 rfl h0.2 h0.1 (by decide) (v := rf E t) ((show _ = some (rr (pb E) (F k 4)) from rfl).trans (by rw [hF]; rfl)) d kk
theorem pfX4_36 (C : Cx E RX4 cc nL p s m args meth c) (hini : meth.name = "<init>") {k t : Nat} (h0 : ob N k 4) (d : decode cc pc = .ok (.putfield 36, 3)) (kk : G E N nL p l e R s m args below meth c cells slots Q I (ur F k 4 (some t)) (pc + 3) ls st) : G E N nL p l e R s m args below meth c cells slots Q I F pc ls (rf E t :: rf E k :: st) := g_putF0 C (q := 4) (CN := RX4) (T := TX4) (nf := 8) (j := 4) rfl inX4 (by decide) lkX4_36 rfl h0.2 h0.1 (by decide) rfl hini rfl tyX4 tyX4_ok nmX4 (by decide) (v := rf E t) (I2 := I) (F2 := ur F k 4 (some t)) rfl rfl (fl_ur rfl) (fun y hy => ⟨rfl, ur_ne hy⟩) d kk
theorem lkX4_40 : Cond.fieldLink RX4 40 "SleepingIslands" "firstSlot" "LSleepingIslands$Chip;" ∈ gw := gw_of 260 (by decide +kernel) (by decide +kernel)
theorem gfX4_40 (C : Cx E RX4 cc nL p s m args meth c) {k t : Nat} (h0 : ob N k 4) (hF : F k 5 = some t) (d : decode cc pc = .ok (.getfield 40, 3)) (kk : G E N nL p l e R s m args below meth c cells slots Q I F (pc + 3) ls (rf E t :: st)) : G E N nL p l e R s m args below meth c cells slots Q I F pc ls (rf E k :: st) := g_get0 C (q := 4) (CN := RX4) (T := TX4) (nf := 8) (j := 5) rfl inX4 (by decide) lkX4_40 rfl h0.2 h0.1 (by decide) (v := rf E t) ((show _ = some (rr (pb E) (F k 5)) from rfl).trans (by rw [hF]; rfl)) d kk
theorem pfX4_40 (C : Cx E RX4 cc nL p s m args meth c) (hini : meth.name = "<init>") {k t : Nat} (h0 : ob N k 4) (d : decode cc pc = .ok (.putfield 40, 3)) (kk : G E N nL p l e R s m args below meth c cells slots Q I (ur F k 5 (some t)) (pc + 3) ls st) : G E N nL p l e R s m args below meth c cells slots Q I F pc ls (rf E t :: rf E k :: st) := g_putF0 C (q := 4) (CN := RX4) (T := TX4) (nf := 8) (j := 5) rfl inX4 (by decide) lkX4_40 rfl h0.2 h0.1 (by decide) rfl hini rfl tyX4 tyX4_ok nmX4 (by decide) (v := rf E t) (I2 := I) (F2 := ur F k 5 (some t)) rfl rfl (fl_ur rfl) (fun y hy => ⟨rfl, ur_ne hy⟩) d kk
theorem lkX4_43 : Cond.fieldLink RX4 43 "SleepingIslands" "secondSlot" "LSleepingIslands$Chip;" ∈ gw := gw_of 261 (by decide +kernel) (by decide +kernel)
theorem gfX4_43 (C : Cx E RX4 cc nL p s m args meth c) {k t : Nat} (h0 : ob N k 4) (hF : F k 6 = some t) (d : decode cc pc = .ok (.getfield 43, 3)) (kk : G E N nL p l e R s m args below meth c cells slots Q I F (pc + 3) ls (rf E t :: st)) : G E N nL p l e R s m args below meth c cells slots Q I F pc ls (rf E k :: st) := g_get0 C (q := 4) (CN := RX4) (T := TX4) (nf := 8) (j := 6) rfl inX4 (by decide) lkX4_43 rfl h0.2 h0.1 (by decide) (v := rf E t) ((show _ = some (rr (pb E) (F k 6)) from rfl).trans (by rw [hF]; rfl)) d kk
theorem pfX4_43 (C : Cx E RX4 cc nL p s m args meth c) (hini : meth.name = "<init>") {k t : Nat} (h0 : ob N k 4) (d : decode cc pc = .ok (.putfield 43, 3)) (kk : G E N nL p l e R s m args below meth c cells slots Q I (ur F k 6 (some t)) (pc + 3) ls st) : G E N nL p l e R s m args below meth c cells slots Q I F pc ls (rf E t :: rf E k :: st) := g_putF0 C (q := 4) (CN := RX4) (T := TX4) (nf := 8) (j := 6) rfl inX4 (by decide) lkX4_43 rfl h0.2 h0.1 (by decide) rfl hini rfl tyX4 tyX4_ok nmX4 (by decide) (v := rf E t) (I2 := I) (F2 := ur F k 6 (some t)) rfl rfl (fl_ur rfl) (fun y hy => ⟨rfl, ur_ne hy⟩) d kk
theorem lkX4_46 : Cond.fieldLink RX4 46 "SleepingIslands" "savedSlots" "I" ∈ gw := gw_of 262 (by decide +kernel) (by decide +kernel)
theorem gfX4_46 (C : Cx E RX4 cc nL p s m args meth c) {k : Nat} (h0 : ob N k 4) (d : decode cc pc = .ok (.getfield 46, 3)) (kk : G E N nL p l e R s m args below meth c cells slots Q I F (pc + 3) ls (.int (I k 7) :: st)) : G E N nL p l e R s m args below meth c cells slots Q I F pc ls (rf E k :: st) := g_get0 C (q := 4) (CN := RX4) (T := TX4) (nf := 8) (j := 7) rfl inX4 (by decide) lkX4_46 rfl h0.2 h0.1 (by decide) (v := .int (I k 7)) rfl d kk
theorem pfX4_46 (C : Cx E RX4 cc nL p s m args meth c) {k : Nat} {x : Int32} (h0 : ob N k 4) (d : decode cc pc = .ok (.putfield 46, 3)) (kk : G E N nL p l e R s m args below meth c cells slots Q (up I k 7 x) F (pc + 3) ls st) : G E N nL p l e R s m args below meth c cells slots Q I F pc ls (.int x :: rf E k :: st) := g_put0 C (q := 4) (CN := RX4) (T := TX4) (nf := 8) (j := 7) rfl inX4 (by decide) lkX4_46 rfl h0.2 h0.1 (by decide) rfl tyX4 tyX4_ok nmX4 (by decide) (v := .int x) (I2 := up I k 7 x) (F2 := F) rfl rfl (fl_up rfl) (fun y hy => ⟨up_ne hy, rfl⟩) d kk
theorem lkX4_65 : Cond.fieldLinkNest RX4 65 "SleepingIslands$Chip" "current" "I" "SleepingIslands" ∈ nw := nw_of 136 (by decide +kernel) (by decide +kernel)
theorem gfX4_65 (C : Cx E RX4 cc nL p s m args meth c) {k : Nat} (h0 : ob N k 0) (d : decode cc pc = .ok (.getfield 65, 3)) (kk : G E N nL p l e R s m args below meth c cells slots Q I F (pc + 3) ls (.int (I k 13) :: st)) : G E N nL p l e R s m args below meth c cells slots Q I F pc ls (rf E k :: st) := g_getN0 C (q := 0) (CN := RX0) (T := TX0) (nf := 19) (j := 13) rfl inX0 (by decide) lkX4_65 rfl h0.2 h0.1 (by decide) (v := .int (I k 13)) rfl d kk
theorem pfX4_65 (C : Cx E RX4 cc nL p s m args meth c) {k : Nat} {x : Int32} (h0 : ob N k 0) (d : decode cc pc = .ok (.putfield 65, 3)) (kk : G E N nL p l e R s m args below meth c cells slots Q (up I k 13 x) F (pc + 3) ls st) : G E N nL p l e R s m args below meth c cells slots Q I F pc ls (.int x :: rf E k :: st) := g_putN0 C (q := 0) (CN := RX0) (T := TX0) (nf := 19) (j := 13) rfl inX0 (by decide) lkX4_65 rfl h0.2 h0.1 (by decide) rfl tyX0 tyX0_ok nmX0 (by decide) (v := .int x) (I2 := up I k 13 x) (F2 := F) rfl rfl (fl_up rfl) (fun y hy => ⟨up_ne hy, rfl⟩) d kk
theorem lkX4_68 : Cond.fieldLinkNest RX4 68 "SleepingIslands$Chip" "asking" "I" "SleepingIslands" ∈ nw := nw_of 138 (by decide +kernel) (by decide +kernel)
theorem gfX4_68 (C : Cx E RX4 cc nL p s m args meth c) {k : Nat} (h0 : ob N k 0) (d : decode cc pc = .ok (.getfield 68, 3)) (kk : G E N nL p l e R s m args below meth c cells slots Q I F (pc + 3) ls (.int (I k 14) :: st)) : G E N nL p l e R s m args below meth c cells slots Q I F pc ls (rf E k :: st) := g_getN0 C (q := 0) (CN := RX0) (T := TX0) (nf := 19) (j := 14) rfl inX0 (by decide) lkX4_68 rfl h0.2 h0.1 (by decide) (v := .int (I k 14)) rfl d kk
theorem pfX4_68 (C : Cx E RX4 cc nL p s m args meth c) {k : Nat} {x : Int32} (h0 : ob N k 0) (d : decode cc pc = .ok (.putfield 68, 3)) (kk : G E N nL p l e R s m args below meth c cells slots Q (up I k 14 x) F (pc + 3) ls st) : G E N nL p l e R s m args below meth c cells slots Q I F pc ls (.int x :: rf E k :: st) := g_putN0 C (q := 0) (CN := RX0) (T := TX0) (nf := 19) (j := 14) rfl inX0 (by decide) lkX4_68 rfl h0.2 h0.1 (by decide) rfl tyX0 tyX0_ok nmX0 (by decide) (v := .int x) (I2 := up I k 14 x) (F2 := F) rfl rfl (fl_up rfl) (fun y hy => ⟨up_ne hy, rfl⟩) d kk
theorem lkX4_71 : Cond.fieldLinkNest RX4 71 "SleepingIslands$Chip" "islands" "I" "SleepingIslands" ∈ nw := nw_of 110 (by decide +kernel) (by decide +kernel)
theorem gfX4_71 (C : Cx E RX4 cc nL p s m args meth c) {k : Nat} (h0 : ob N k 0) (d : decode cc pc = .ok (.getfield 71, 3)) (kk : G E N nL p l e R s m args below meth c cells slots Q I F (pc + 3) ls (.int (I k 0) :: st)) : G E N nL p l e R s m args below meth c cells slots Q I F pc ls (rf E k :: st) := g_getN0 C (q := 0) (CN := RX0) (T := TX0) (nf := 19) (j := 0) rfl inX0 (by decide) lkX4_71 rfl h0.2 h0.1 (by decide) (v := .int (I k 0)) rfl d kk
theorem lkX4_82 : Cond.fieldLinkNest RX4 82 "SleepingIslands$ChipReader" "chip" "LSleepingIslands$Chip;" "SleepingIslands" ∈ nw := nw_of 216 (by decide +kernel) (by decide +kernel)
theorem gfX4_82 (C : Cx E RX4 cc nL p s m args meth c) {k t : Nat} (h0 : ob N k 1) (hF : F k 0 = some t) (d : decode cc pc = .ok (.getfield 82, 3)) (kk : G E N nL p l e R s m args below meth c cells slots Q I F (pc + 3) ls (rf E t :: st)) : G E N nL p l e R s m args below meth c cells slots Q I F pc ls (rf E k :: st) := g_getN0 C (q := 1) (CN := RX1) (T := TX1) (nf := 7) (j := 0) rfl inX1 (by decide) lkX4_82 rfl h0.2 h0.1 (by decide) (v := rf E t) ((show _ = some (rr (pb E) (F k 0)) from rfl).trans (by rw [hF]; rfl)) d kk
theorem lkX4_90 : Cond.fieldLinkNest RX4 90 "SleepingIslands$Pad" "length" "I" "SleepingIslands" ∈ nw := nw_of 196 (by decide +kernel) (by decide +kernel)
theorem gfX4_90 (C : Cx E RX4 cc nL p s m args meth c) {k : Nat} (h0 : ob N k 3) (d : decode cc pc = .ok (.getfield 90, 3)) (kk : G E N nL p l e R s m args below meth c cells slots Q I F (pc + 3) ls (.int (I k 1) :: st)) : G E N nL p l e R s m args below meth c cells slots Q I F pc ls (rf E k :: st) := g_getN0 C (q := 3) (CN := RX3) (T := TX3) (nf := 2) (j := 1) rfl inX3 (by decide) lkX4_90 rfl h0.2 h0.1 (by decide) (v := .int (I k 1)) rfl d kk
theorem pfX4_90 (C : Cx E RX4 cc nL p s m args meth c) {k : Nat} {x : Int32} (h0 : ob N k 3) (d : decode cc pc = .ok (.putfield 90, 3)) (kk : G E N nL p l e R s m args below meth c cells slots Q (up I k 1 x) F (pc + 3) ls st) : G E N nL p l e R s m args below meth c cells slots Q I F pc ls (.int x :: rf E k :: st) := g_putN0 C (q := 3) (CN := RX3) (T := TX3) (nf := 2) (j := 1) rfl inX3 (by decide) lkX4_90 rfl h0.2 h0.1 (by decide) rfl tyX3 tyX3_ok nmX3 (by decide) (v := .int x) (I2 := up I k 1 x) (F2 := F) rfl rfl (fl_up rfl) (fun y hy => ⟨up_ne hy, rfl⟩) d kk
theorem lkX4_97 : Cond.fieldLinkNest RX4 97 "SleepingIslands$Chip" "reads" "[I" "SleepingIslands" ∈ nw := nw_of 121 (by decide +kernel) (by decide +kernel)
theorem gfX4_97 (C : Cx E RX4 cc nL p s m args meth c) {k t : Nat} (h0 : ob N k 0) (hF : F k 5 = some t) (d : decode cc pc = .ok (.getfield 97, 3)) (kk : G E N nL p l e R s m args below meth c cells slots Q I F (pc + 3) ls (rf E t :: st)) : G E N nL p l e R s m args below meth c cells slots Q I F pc ls (rf E k :: st) := g_getN0 C (q := 0) (CN := RX0) (T := TX0) (nf := 19) (j := 5) rfl inX0 (by decide) lkX4_97 rfl h0.2 h0.1 (by decide) (v := rf E t) ((show _ = some (rr (pb E) (F k 5)) from rfl).trans (by rw [hF]; rfl)) d kk
theorem lkX4_105 : Cond.fieldLinkNest RX4 105 "SleepingIslands$Chip" "states" "[I" "SleepingIslands" ∈ nw := nw_of 123 (by decide +kernel) (by decide +kernel)
theorem gfX4_105 (C : Cx E RX4 cc nL p s m args meth c) {k t : Nat} (h0 : ob N k 0) (hF : F k 6 = some t) (d : decode cc pc = .ok (.getfield 105, 3)) (kk : G E N nL p l e R s m args below meth c cells slots Q I F (pc + 3) ls (rf E t :: st)) : G E N nL p l e R s m args below meth c cells slots Q I F pc ls (rf E k :: st) := g_getN0 C (q := 0) (CN := RX0) (T := TX0) (nf := 19) (j := 6) rfl inX0 (by decide) lkX4_105 rfl h0.2 h0.1 (by decide) (v := rf E t) ((show _ = some (rr (pb E) (F k 6)) from rfl).trans (by rw [hF]; rfl)) d kk
theorem lkX4_108 : Cond.fieldLinkNest RX4 108 "SleepingIslands$Chip" "values" "[I" "SleepingIslands" ∈ nw := nw_of 125 (by decide +kernel) (by decide +kernel)
theorem gfX4_108 (C : Cx E RX4 cc nL p s m args meth c) {k t : Nat} (h0 : ob N k 0) (hF : F k 7 = some t) (d : decode cc pc = .ok (.getfield 108, 3)) (kk : G E N nL p l e R s m args below meth c cells slots Q I F (pc + 3) ls (rf E t :: st)) : G E N nL p l e R s m args below meth c cells slots Q I F pc ls (rf E k :: st) := g_getN0 C (q := 0) (CN := RX0) (T := TX0) (nf := 19) (j := 7) rfl inX0 (by decide) lkX4_108 rfl h0.2 h0.1 (by decide) (v := rf E t) ((show _ = some (rr (pb E) (F k 7)) from rfl).trans (by rw [hF]; rfl)) d kk
theorem lkX4_126 : Cond.fieldLinkNest RX4 126 "SleepingIslands$Chip" "inQueue" "I" "SleepingIslands" ∈ nw := nw_of 134 (by decide +kernel) (by decide +kernel)
theorem gfX4_126 (C : Cx E RX4 cc nL p s m args meth c) {k : Nat} (h0 : ob N k 0) (d : decode cc pc = .ok (.getfield 126, 3)) (kk : G E N nL p l e R s m args below meth c cells slots Q I F (pc + 3) ls (.int (I k 12) :: st)) : G E N nL p l e R s m args below meth c cells slots Q I F pc ls (rf E k :: st) := g_getN0 C (q := 0) (CN := RX0) (T := TX0) (nf := 19) (j := 12) rfl inX0 (by decide) lkX4_126 rfl h0.2 h0.1 (by decide) (v := .int (I k 12)) rfl d kk
theorem lkX4_136 : Cond.fieldLinkNest RX4 136 "SleepingIslands$Chip" "kept" "[I" "SleepingIslands" ∈ nw := nw_of 127 (by decide +kernel) (by decide +kernel)
theorem gfX4_136 (C : Cx E RX4 cc nL p s m args meth c) {k t : Nat} (h0 : ob N k 0) (hF : F k 8 = some t) (d : decode cc pc = .ok (.getfield 136, 3)) (kk : G E N nL p l e R s m args below meth c cells slots Q I F (pc + 3) ls (rf E t :: st)) : G E N nL p l e R s m args below meth c cells slots Q I F pc ls (rf E k :: st) := g_getN0 C (q := 0) (CN := RX0) (T := TX0) (nf := 19) (j := 8) rfl inX0 (by decide) lkX4_136 rfl h0.2 h0.1 (by decide) (v := rf E t) ((show _ = some (rr (pb E) (F k 8)) from rfl).trans (by rw [hF]; rfl)) d kk
theorem lkX4_139 : Cond.fieldLinkNest RX4 139 "SleepingIslands$Chip" "isolators" "I" "SleepingIslands" ∈ nw := nw_of 113 (by decide +kernel) (by decide +kernel)
theorem gfX4_139 (C : Cx E RX4 cc nL p s m args meth c) {k : Nat} (h0 : ob N k 0) (d : decode cc pc = .ok (.getfield 139, 3)) (kk : G E N nL p l e R s m args below meth c cells slots Q I F (pc + 3) ls (.int (I k 1) :: st)) : G E N nL p l e R s m args below meth c cells slots Q I F pc ls (rf E k :: st) := g_getN0 C (q := 0) (CN := RX0) (T := TX0) (nf := 19) (j := 1) rfl inX0 (by decide) lkX4_139 rfl h0.2 h0.1 (by decide) (v := .int (I k 1)) rfl d kk
theorem lkX4_142 : Cond.fieldLinkNest RX4 142 "SleepingIslands$Chip" "keepers" "I" "SleepingIslands" ∈ nw := nw_of 115 (by decide +kernel) (by decide +kernel)
theorem gfX4_142 (C : Cx E RX4 cc nL p s m args meth c) {k : Nat} (h0 : ob N k 0) (d : decode cc pc = .ok (.getfield 142, 3)) (kk : G E N nL p l e R s m args below meth c cells slots Q I F (pc + 3) ls (.int (I k 2) :: st)) : G E N nL p l e R s m args below meth c cells slots Q I F pc ls (rf E k :: st) := g_getN0 C (q := 0) (CN := RX0) (T := TX0) (nf := 19) (j := 2) rfl inX0 (by decide) lkX4_142 rfl h0.2 h0.1 (by decide) (v := .int (I k 2)) rfl d kk
theorem lkX4_145 : Cond.fieldLinkNest RX4 145 "SleepingIslands$Chip" "rises" "[I" "SleepingIslands" ∈ nw := nw_of 117 (by decide +kernel) (by decide +kernel)
theorem gfX4_145 (C : Cx E RX4 cc nL p s m args meth c) {k t : Nat} (h0 : ob N k 0) (hF : F k 3 = some t) (d : decode cc pc = .ok (.getfield 145, 3)) (kk : G E N nL p l e R s m args below meth c cells slots Q I F (pc + 3) ls (rf E t :: st)) : G E N nL p l e R s m args below meth c cells slots Q I F pc ls (rf E k :: st) := g_getN0 C (q := 0) (CN := RX0) (T := TX0) (nf := 19) (j := 3) rfl inX0 (by decide) lkX4_145 rfl h0.2 h0.1 (by decide) (v := rf E t) ((show _ = some (rr (pb E) (F k 3)) from rfl).trans (by rw [hF]; rfl)) d kk
theorem lkX4_148 : Cond.fieldLinkNest RX4 148 "SleepingIslands$Chip" "loads" "[I" "SleepingIslands" ∈ nw := nw_of 119 (by decide +kernel) (by decide +kernel)
theorem gfX4_148 (C : Cx E RX4 cc nL p s m args meth c) {k t : Nat} (h0 : ob N k 0) (hF : F k 4 = some t) (d : decode cc pc = .ok (.getfield 148, 3)) (kk : G E N nL p l e R s m args below meth c cells slots Q I F (pc + 3) ls (rf E t :: st)) : G E N nL p l e R s m args below meth c cells slots Q I F pc ls (rf E k :: st) := g_getN0 C (q := 0) (CN := RX0) (T := TX0) (nf := 19) (j := 4) rfl inX0 (by decide) lkX4_148 rfl h0.2 h0.1 (by decide) (v := rf E t) ((show _ = some (rr (pb E) (F k 4)) from rfl).trans (by rw [hF]; rfl)) d kk
theorem lkX4_154 : Cond.fieldLinkNest RX4 154 "SleepingIslands$Chip" "left" "[I" "SleepingIslands" ∈ nw := nw_of 129 (by decide +kernel) (by decide +kernel)
theorem gfX4_154 (C : Cx E RX4 cc nL p s m args meth c) {k t : Nat} (h0 : ob N k 0) (hF : F k 9 = some t) (d : decode cc pc = .ok (.getfield 154, 3)) (kk : G E N nL p l e R s m args below meth c cells slots Q I F (pc + 3) ls (rf E t :: st)) : G E N nL p l e R s m args below meth c cells slots Q I F pc ls (rf E k :: st) := g_getN0 C (q := 0) (CN := RX0) (T := TX0) (nf := 19) (j := 9) rfl inX0 (by decide) lkX4_154 rfl h0.2 h0.1 (by decide) (v := rf E t) ((show _ = some (rr (pb E) (F k 9)) from rfl).trans (by rw [hF]; rfl)) d kk
theorem lkX4_160 : Cond.fieldLinkNest RX4 160 "SleepingIslands$Chip" "noise" "[I" "SleepingIslands" ∈ nw := nw_of 131 (by decide +kernel) (by decide +kernel)
theorem gfX4_160 (C : Cx E RX4 cc nL p s m args meth c) {k t : Nat} (h0 : ob N k 0) (hF : F k 10 = some t) (d : decode cc pc = .ok (.getfield 160, 3)) (kk : G E N nL p l e R s m args below meth c cells slots Q I F (pc + 3) ls (rf E t :: st)) : G E N nL p l e R s m args below meth c cells slots Q I F pc ls (rf E k :: st) := g_getN0 C (q := 0) (CN := RX0) (T := TX0) (nf := 19) (j := 10) rfl inX0 (by decide) lkX4_160 rfl h0.2 h0.1 (by decide) (v := rf E t) ((show _ = some (rr (pb E) (F k 10)) from rfl).trans (by rw [hF]; rfl)) d kk
theorem lkX4_166 : Cond.fieldLinkNest RX4 166 "SleepingIslands$Chip" "greatestLoad" "I" "SleepingIslands" ∈ nw := nw_of 144 (by decide +kernel) (by decide +kernel)
theorem gfX4_166 (C : Cx E RX4 cc nL p s m args meth c) {k : Nat} (h0 : ob N k 0) (d : decode cc pc = .ok (.getfield 166, 3)) (kk : G E N nL p l e R s m args below meth c cells slots Q I F (pc + 3) ls (.int (I k 17) :: st)) : G E N nL p l e R s m args below meth c cells slots Q I F pc ls (rf E k :: st) := g_getN0 C (q := 0) (CN := RX0) (T := TX0) (nf := 19) (j := 17) rfl inX0 (by decide) lkX4_166 rfl h0.2 h0.1 (by decide) (v := .int (I k 17)) rfl d kk
theorem pfX4_166 (C : Cx E RX4 cc nL p s m args meth c) {k : Nat} {x : Int32} (h0 : ob N k 0) (d : decode cc pc = .ok (.putfield 166, 3)) (kk : G E N nL p l e R s m args below meth c cells slots Q (up I k 17 x) F (pc + 3) ls st) : G E N nL p l e R s m args below meth c cells slots Q I F pc ls (.int x :: rf E k :: st) := g_putN0 C (q := 0) (CN := RX0) (T := TX0) (nf := 19) (j := 17) rfl inX0 (by decide) lkX4_166 rfl h0.2 h0.1 (by decide) rfl tyX0 tyX0_ok nmX0 (by decide) (v := .int x) (I2 := up I k 17 x) (F2 := F) rfl rfl (fl_up rfl) (fun y hy => ⟨up_ne hy, rfl⟩) d kk
theorem lkX4_169 : Cond.fieldLinkNest RX4 169 "SleepingIslands$Chip" "lostValues" "I" "SleepingIslands" ∈ nw := nw_of 142 (by decide +kernel) (by decide +kernel)
theorem gfX4_169 (C : Cx E RX4 cc nL p s m args meth c) {k : Nat} (h0 : ob N k 0) (d : decode cc pc = .ok (.getfield 169, 3)) (kk : G E N nL p l e R s m args below meth c cells slots Q I F (pc + 3) ls (.int (I k 16) :: st)) : G E N nL p l e R s m args below meth c cells slots Q I F pc ls (rf E k :: st) := g_getN0 C (q := 0) (CN := RX0) (T := TX0) (nf := 19) (j := 16) rfl inX0 (by decide) lkX4_169 rfl h0.2 h0.1 (by decide) (v := .int (I k 16)) rfl d kk
theorem lkX4_172 : Cond.fieldLinkNest RX4 172 "SleepingIslands$Chip" "ticks" "I" "SleepingIslands" ∈ nw := nw_of 140 (by decide +kernel) (by decide +kernel)
theorem gfX4_172 (C : Cx E RX4 cc nL p s m args meth c) {k : Nat} (h0 : ob N k 0) (d : decode cc pc = .ok (.getfield 172, 3)) (kk : G E N nL p l e R s m args below meth c cells slots Q I F (pc + 3) ls (.int (I k 15) :: st)) : G E N nL p l e R s m args below meth c cells slots Q I F pc ls (rf E k :: st) := g_getN0 C (q := 0) (CN := RX0) (T := TX0) (nf := 19) (j := 15) rfl inX0 (by decide) lkX4_172 rfl h0.2 h0.1 (by decide) (v := .int (I k 15)) rfl d kk
theorem lkX4_175 : Cond.fieldLinkNest RX4 175 "SleepingIslands$History" "many" "I" "SleepingIslands" ∈ nw := nw_of 249 (by decide +kernel) (by decide +kernel)
theorem gfX4_175 (C : Cx E RX4 cc nL p s m args meth c) {k : Nat} (h0 : ob N k 2) (d : decode cc pc = .ok (.getfield 175, 3)) (kk : G E N nL p l e R s m args below meth c cells slots Q I F (pc + 3) ls (.int (I k 1) :: st)) : G E N nL p l e R s m args below meth c cells slots Q I F pc ls (rf E k :: st) := g_getN0 C (q := 2) (CN := RX2) (T := TX2) (nf := 2) (j := 1) rfl inX2 (by decide) lkX4_175 rfl h0.2 h0.1 (by decide) (v := .int (I k 1)) rfl d kk
theorem lkX0_9 : Cond.fieldLink RX0 9 "SleepingIslands$Chip" "rises" "[I" ∈ gw := gw_of 116 (by decide +kernel) (by decide +kernel)
theorem gfX0_9 (C : Cx E RX0 cc nL p s m args meth c) {k t : Nat} (h0 : ob N k 0) (hF : F k 3 = some t) (d : decode cc pc = .ok (.getfield 9, 3)) (kk : G E N nL p l e R s m args below meth c cells slots Q I F (pc + 3) ls (rf E t :: st)) : G E N nL p l e R s m args below meth c cells slots Q I F pc ls (rf E k :: st) := g_get0 C (q := 0) (CN := RX0) (T := TX0) (nf := 19) (j := 3) rfl inX0 (by decide) lkX0_9 rfl h0.2 h0.1 (by decide) (v := rf E t) ((show _ = some (rr (pb E) (F k 3)) from rfl).trans (by rw [hF]; rfl)) d kk
theorem pfX0_9 (C : Cx E RX0 cc nL p s m args meth c) (hini : meth.name = "<init>") {k t : Nat} (h0 : ob N k 0) (d : decode cc pc = .ok (.putfield 9, 3)) (kk : G E N nL p l e R s m args below meth c cells slots Q I (ur F k 3 (some t)) (pc + 3) ls st) : G E N nL p l e R s m args below meth c cells slots Q I F pc ls (rf E t :: rf E k :: st) := g_putF0 C (q := 0) (CN := RX0) (T := TX0) (nf := 19) (j := 3) rfl inX0 (by decide) lkX0_9 rfl h0.2 h0.1 (by decide) rfl hini rfl tyX0 tyX0_ok nmX0 (by decide) (v := rf E t) (I2 := I) (F2 := ur F k 3 (some t)) rfl rfl (fl_ur rfl) (fun y hy => ⟨rfl, ur_ne hy⟩) d kk
theorem lkX0_15 : Cond.fieldLink RX0 15 "SleepingIslands$Chip" "loads" "[I" ∈ gw := gw_of 118 (by decide +kernel) (by decide +kernel)
theorem gfX0_15 (C : Cx E RX0 cc nL p s m args meth c) {k t : Nat} (h0 : ob N k 0) (hF : F k 4 = some t) (d : decode cc pc = .ok (.getfield 15, 3)) (kk : G E N nL p l e R s m args below meth c cells slots Q I F (pc + 3) ls (rf E t :: st)) : G E N nL p l e R s m args below meth c cells slots Q I F pc ls (rf E k :: st) := g_get0 C (q := 0) (CN := RX0) (T := TX0) (nf := 19) (j := 4) rfl inX0 (by decide) lkX0_15 rfl h0.2 h0.1 (by decide) (v := rf E t) ((show _ = some (rr (pb E) (F k 4)) from rfl).trans (by rw [hF]; rfl)) d kk
theorem pfX0_15 (C : Cx E RX0 cc nL p s m args meth c) (hini : meth.name = "<init>") {k t : Nat} (h0 : ob N k 0) (d : decode cc pc = .ok (.putfield 15, 3)) (kk : G E N nL p l e R s m args below meth c cells slots Q I (ur F k 4 (some t)) (pc + 3) ls st) : G E N nL p l e R s m args below meth c cells slots Q I F pc ls (rf E t :: rf E k :: st) := g_putF0 C (q := 0) (CN := RX0) (T := TX0) (nf := 19) (j := 4) rfl inX0 (by decide) lkX0_15 rfl h0.2 h0.1 (by decide) rfl hini rfl tyX0 tyX0_ok nmX0 (by decide) (v := rf E t) (I2 := I) (F2 := ur F k 4 (some t)) rfl rfl (fl_ur rfl) (fun y hy => ⟨rfl, ur_ne hy⟩) d kk
theorem lkX0_18 : Cond.fieldLink RX0 18 "SleepingIslands$Chip" "reads" "[I" ∈ gw := gw_of 120 (by decide +kernel) (by decide +kernel)
theorem gfX0_18 (C : Cx E RX0 cc nL p s m args meth c) {k t : Nat} (h0 : ob N k 0) (hF : F k 5 = some t) (d : decode cc pc = .ok (.getfield 18, 3)) (kk : G E N nL p l e R s m args below meth c cells slots Q I F (pc + 3) ls (rf E t :: st)) : G E N nL p l e R s m args below meth c cells slots Q I F pc ls (rf E k :: st) := g_get0 C (q := 0) (CN := RX0) (T := TX0) (nf := 19) (j := 5) rfl inX0 (by decide) lkX0_18 rfl h0.2 h0.1 (by decide) (v := rf E t) ((show _ = some (rr (pb E) (F k 5)) from rfl).trans (by rw [hF]; rfl)) d kk
theorem pfX0_18 (C : Cx E RX0 cc nL p s m args meth c) (hini : meth.name = "<init>") {k t : Nat} (h0 : ob N k 0) (d : decode cc pc = .ok (.putfield 18, 3)) (kk : G E N nL p l e R s m args below meth c cells slots Q I (ur F k 5 (some t)) (pc + 3) ls st) : G E N nL p l e R s m args below meth c cells slots Q I F pc ls (rf E t :: rf E k :: st) := g_putF0 C (q := 0) (CN := RX0) (T := TX0) (nf := 19) (j := 5) rfl inX0 (by decide) lkX0_18 rfl h0.2 h0.1 (by decide) rfl hini rfl tyX0 tyX0_ok nmX0 (by decide) (v := rf E t) (I2 := I) (F2 := ur F k 5 (some t)) rfl rfl (fl_ur rfl) (fun y hy => ⟨rfl, ur_ne hy⟩) d kk
theorem lkX0_21 : Cond.fieldLink RX0 21 "SleepingIslands$Chip" "states" "[I" ∈ gw := gw_of 122 (by decide +kernel) (by decide +kernel)
theorem gfX0_21 (C : Cx E RX0 cc nL p s m args meth c) {k t : Nat} (h0 : ob N k 0) (hF : F k 6 = some t) (d : decode cc pc = .ok (.getfield 21, 3)) (kk : G E N nL p l e R s m args below meth c cells slots Q I F (pc + 3) ls (rf E t :: st)) : G E N nL p l e R s m args below meth c cells slots Q I F pc ls (rf E k :: st) := g_get0 C (q := 0) (CN := RX0) (T := TX0) (nf := 19) (j := 6) rfl inX0 (by decide) lkX0_21 rfl h0.2 h0.1 (by decide) (v := rf E t) ((show _ = some (rr (pb E) (F k 6)) from rfl).trans (by rw [hF]; rfl)) d kk
theorem pfX0_21 (C : Cx E RX0 cc nL p s m args meth c) (hini : meth.name = "<init>") {k t : Nat} (h0 : ob N k 0) (d : decode cc pc = .ok (.putfield 21, 3)) (kk : G E N nL p l e R s m args below meth c cells slots Q I (ur F k 6 (some t)) (pc + 3) ls st) : G E N nL p l e R s m args below meth c cells slots Q I F pc ls (rf E t :: rf E k :: st) := g_putF0 C (q := 0) (CN := RX0) (T := TX0) (nf := 19) (j := 6) rfl inX0 (by decide) lkX0_21 rfl h0.2 h0.1 (by decide) rfl hini rfl tyX0 tyX0_ok nmX0 (by decide) (v := rf E t) (I2 := I) (F2 := ur F k 6 (some t)) rfl rfl (fl_ur rfl) (fun y hy => ⟨rfl, ur_ne hy⟩) d kk
theorem lkX0_24 : Cond.fieldLink RX0 24 "SleepingIslands$Chip" "values" "[I" ∈ gw := gw_of 124 (by decide +kernel) (by decide +kernel)
theorem gfX0_24 (C : Cx E RX0 cc nL p s m args meth c) {k t : Nat} (h0 : ob N k 0) (hF : F k 7 = some t) (d : decode cc pc = .ok (.getfield 24, 3)) (kk : G E N nL p l e R s m args below meth c cells slots Q I F (pc + 3) ls (rf E t :: st)) : G E N nL p l e R s m args below meth c cells slots Q I F pc ls (rf E k :: st) := g_get0 C (q := 0) (CN := RX0) (T := TX0) (nf := 19) (j := 7) rfl inX0 (by decide) lkX0_24 rfl h0.2 h0.1 (by decide) (v := rf E t) ((show _ = some (rr (pb E) (F k 7)) from rfl).trans (by rw [hF]; rfl)) d kk
theorem pfX0_24 (C : Cx E RX0 cc nL p s m args meth c) (hini : meth.name = "<init>") {k t : Nat} (h0 : ob N k 0) (d : decode cc pc = .ok (.putfield 24, 3)) (kk : G E N nL p l e R s m args below meth c cells slots Q I (ur F k 7 (some t)) (pc + 3) ls st) : G E N nL p l e R s m args below meth c cells slots Q I F pc ls (rf E t :: rf E k :: st) := g_putF0 C (q := 0) (CN := RX0) (T := TX0) (nf := 19) (j := 7) rfl inX0 (by decide) lkX0_24 rfl h0.2 h0.1 (by decide) rfl hini rfl tyX0 tyX0_ok nmX0 (by decide) (v := rf E t) (I2 := I) (F2 := ur F k 7 (some t)) rfl rfl (fl_ur rfl) (fun y hy => ⟨rfl, ur_ne hy⟩) d kk
theorem lkX0_27 : Cond.fieldLink RX0 27 "SleepingIslands$Chip" "kept" "[I" ∈ gw := gw_of 126 (by decide +kernel) (by decide +kernel)
theorem gfX0_27 (C : Cx E RX0 cc nL p s m args meth c) {k t : Nat} (h0 : ob N k 0) (hF : F k 8 = some t) (d : decode cc pc = .ok (.getfield 27, 3)) (kk : G E N nL p l e R s m args below meth c cells slots Q I F (pc + 3) ls (rf E t :: st)) : G E N nL p l e R s m args below meth c cells slots Q I F pc ls (rf E k :: st) := g_get0 C (q := 0) (CN := RX0) (T := TX0) (nf := 19) (j := 8) rfl inX0 (by decide) lkX0_27 rfl h0.2 h0.1 (by decide) (v := rf E t) ((show _ = some (rr (pb E) (F k 8)) from rfl).trans (by rw [hF]; rfl)) d kk
theorem pfX0_27 (C : Cx E RX0 cc nL p s m args meth c) (hini : meth.name = "<init>") {k t : Nat} (h0 : ob N k 0) (d : decode cc pc = .ok (.putfield 27, 3)) (kk : G E N nL p l e R s m args below meth c cells slots Q I (ur F k 8 (some t)) (pc + 3) ls st) : G E N nL p l e R s m args below meth c cells slots Q I F pc ls (rf E t :: rf E k :: st) := g_putF0 C (q := 0) (CN := RX0) (T := TX0) (nf := 19) (j := 8) rfl inX0 (by decide) lkX0_27 rfl h0.2 h0.1 (by decide) rfl hini rfl tyX0 tyX0_ok nmX0 (by decide) (v := rf E t) (I2 := I) (F2 := ur F k 8 (some t)) rfl rfl (fl_ur rfl) (fun y hy => ⟨rfl, ur_ne hy⟩) d kk
theorem lkX0_30 : Cond.fieldLink RX0 30 "SleepingIslands$Chip" "left" "[I" ∈ gw := gw_of 128 (by decide +kernel) (by decide +kernel)
theorem gfX0_30 (C : Cx E RX0 cc nL p s m args meth c) {k t : Nat} (h0 : ob N k 0) (hF : F k 9 = some t) (d : decode cc pc = .ok (.getfield 30, 3)) (kk : G E N nL p l e R s m args below meth c cells slots Q I F (pc + 3) ls (rf E t :: st)) : G E N nL p l e R s m args below meth c cells slots Q I F pc ls (rf E k :: st) := g_get0 C (q := 0) (CN := RX0) (T := TX0) (nf := 19) (j := 9) rfl inX0 (by decide) lkX0_30 rfl h0.2 h0.1 (by decide) (v := rf E t) ((show _ = some (rr (pb E) (F k 9)) from rfl).trans (by rw [hF]; rfl)) d kk
theorem pfX0_30 (C : Cx E RX0 cc nL p s m args meth c) (hini : meth.name = "<init>") {k t : Nat} (h0 : ob N k 0) (d : decode cc pc = .ok (.putfield 30, 3)) (kk : G E N nL p l e R s m args below meth c cells slots Q I (ur F k 9 (some t)) (pc + 3) ls st) : G E N nL p l e R s m args below meth c cells slots Q I F pc ls (rf E t :: rf E k :: st) := g_putF0 C (q := 0) (CN := RX0) (T := TX0) (nf := 19) (j := 9) rfl inX0 (by decide) lkX0_30 rfl h0.2 h0.1 (by decide) rfl hini rfl tyX0 tyX0_ok nmX0 (by decide) (v := rf E t) (I2 := I) (F2 := ur F k 9 (some t)) rfl rfl (fl_ur rfl) (fun y hy => ⟨rfl, ur_ne hy⟩) d kk
theorem lkX0_33 : Cond.fieldLink RX0 33 "SleepingIslands$Chip" "noise" "[I" ∈ gw := gw_of 130 (by decide +kernel) (by decide +kernel)
theorem gfX0_33 (C : Cx E RX0 cc nL p s m args meth c) {k t : Nat} (h0 : ob N k 0) (hF : F k 10 = some t) (d : decode cc pc = .ok (.getfield 33, 3)) (kk : G E N nL p l e R s m args below meth c cells slots Q I F (pc + 3) ls (rf E t :: st)) : G E N nL p l e R s m args below meth c cells slots Q I F pc ls (rf E k :: st) := g_get0 C (q := 0) (CN := RX0) (T := TX0) (nf := 19) (j := 10) rfl inX0 (by decide) lkX0_33 rfl h0.2 h0.1 (by decide) (v := rf E t) ((show _ = some (rr (pb E) (F k 10)) from rfl).trans (by rw [hF]; rfl)) d kk
theorem pfX0_33 (C : Cx E RX0 cc nL p s m args meth c) (hini : meth.name = "<init>") {k t : Nat} (h0 : ob N k 0) (d : decode cc pc = .ok (.putfield 33, 3)) (kk : G E N nL p l e R s m args below meth c cells slots Q I (ur F k 10 (some t)) (pc + 3) ls st) : G E N nL p l e R s m args below meth c cells slots Q I F pc ls (rf E t :: rf E k :: st) := g_putF0 C (q := 0) (CN := RX0) (T := TX0) (nf := 19) (j := 10) rfl inX0 (by decide) lkX0_33 rfl h0.2 h0.1 (by decide) rfl hini rfl tyX0 tyX0_ok nmX0 (by decide) (v := rf E t) (I2 := I) (F2 := ur F k 10 (some t)) rfl rfl (fl_ur rfl) (fun y hy => ⟨rfl, ur_ne hy⟩) d kk
theorem lkX0_36 : Cond.fieldLink RX0 36 "SleepingIslands$Chip" "queue" "[I" ∈ gw := gw_of 132 (by decide +kernel) (by decide +kernel)
theorem gfX0_36 (C : Cx E RX0 cc nL p s m args meth c) {k t : Nat} (h0 : ob N k 0) (hF : F k 11 = some t) (d : decode cc pc = .ok (.getfield 36, 3)) (kk : G E N nL p l e R s m args below meth c cells slots Q I F (pc + 3) ls (rf E t :: st)) : G E N nL p l e R s m args below meth c cells slots Q I F pc ls (rf E k :: st) := g_get0 C (q := 0) (CN := RX0) (T := TX0) (nf := 19) (j := 11) rfl inX0 (by decide) lkX0_36 rfl h0.2 h0.1 (by decide) (v := rf E t) ((show _ = some (rr (pb E) (F k 11)) from rfl).trans (by rw [hF]; rfl)) d kk
theorem pfX0_36 (C : Cx E RX0 cc nL p s m args meth c) (hini : meth.name = "<init>") {k t : Nat} (h0 : ob N k 0) (d : decode cc pc = .ok (.putfield 36, 3)) (kk : G E N nL p l e R s m args below meth c cells slots Q I (ur F k 11 (some t)) (pc + 3) ls st) : G E N nL p l e R s m args below meth c cells slots Q I F pc ls (rf E t :: rf E k :: st) := g_putF0 C (q := 0) (CN := RX0) (T := TX0) (nf := 19) (j := 11) rfl inX0 (by decide) lkX0_36 rfl h0.2 h0.1 (by decide) rfl hini rfl tyX0 tyX0_ok nmX0 (by decide) (v := rf E t) (I2 := I) (F2 := ur F k 11 (some t)) rfl rfl (fl_ur rfl) (fun y hy => ⟨rfl, ur_ne hy⟩) d kk
theorem lkX0_39 : Cond.fieldLink RX0 39 "SleepingIslands$Chip" "told" "[I" ∈ gw := gw_of 145 (by decide +kernel) (by decide +kernel)
theorem gfX0_39 (C : Cx E RX0 cc nL p s m args meth c) {k t : Nat} (h0 : ob N k 0) (hF : F k 18 = some t) (d : decode cc pc = .ok (.getfield 39, 3)) (kk : G E N nL p l e R s m args below meth c cells slots Q I F (pc + 3) ls (rf E t :: st)) : G E N nL p l e R s m args below meth c cells slots Q I F pc ls (rf E k :: st) := g_get0 C (q := 0) (CN := RX0) (T := TX0) (nf := 19) (j := 18) rfl inX0 (by decide) lkX0_39 rfl h0.2 h0.1 (by decide) (v := rf E t) ((show _ = some (rr (pb E) (F k 18)) from rfl).trans (by rw [hF]; rfl)) d kk
theorem pfX0_39 (C : Cx E RX0 cc nL p s m args meth c) (hini : meth.name = "<init>") {k t : Nat} (h0 : ob N k 0) (d : decode cc pc = .ok (.putfield 39, 3)) (kk : G E N nL p l e R s m args below meth c cells slots Q I (ur F k 18 (some t)) (pc + 3) ls st) : G E N nL p l e R s m args below meth c cells slots Q I F pc ls (rf E t :: rf E k :: st) := g_putF0 C (q := 0) (CN := RX0) (T := TX0) (nf := 19) (j := 18) rfl inX0 (by decide) lkX0_39 rfl h0.2 h0.1 (by decide) rfl hini rfl tyX0 tyX0_ok nmX0 (by decide) (v := rf E t) (I2 := I) (F2 := ur F k 18 (some t)) rfl rfl (fl_ur rfl) (fun y hy => ⟨rfl, ur_ne hy⟩) d kk
theorem lkX0_42 : Cond.fieldLink RX0 42 "SleepingIslands$Chip" "current" "I" ∈ gw := gw_of 135 (by decide +kernel) (by decide +kernel)
theorem gfX0_42 (C : Cx E RX0 cc nL p s m args meth c) {k : Nat} (h0 : ob N k 0) (d : decode cc pc = .ok (.getfield 42, 3)) (kk : G E N nL p l e R s m args below meth c cells slots Q I F (pc + 3) ls (.int (I k 13) :: st)) : G E N nL p l e R s m args below meth c cells slots Q I F pc ls (rf E k :: st) := g_get0 C (q := 0) (CN := RX0) (T := TX0) (nf := 19) (j := 13) rfl inX0 (by decide) lkX0_42 rfl h0.2 h0.1 (by decide) (v := .int (I k 13)) rfl d kk
theorem pfX0_42 (C : Cx E RX0 cc nL p s m args meth c) {k : Nat} {x : Int32} (h0 : ob N k 0) (d : decode cc pc = .ok (.putfield 42, 3)) (kk : G E N nL p l e R s m args below meth c cells slots Q (up I k 13 x) F (pc + 3) ls st) : G E N nL p l e R s m args below meth c cells slots Q I F pc ls (.int x :: rf E k :: st) := g_put0 C (q := 0) (CN := RX0) (T := TX0) (nf := 19) (j := 13) rfl inX0 (by decide) lkX0_42 rfl h0.2 h0.1 (by decide) rfl tyX0 tyX0_ok nmX0 (by decide) (v := .int x) (I2 := up I k 13 x) (F2 := F) rfl rfl (fl_up rfl) (fun y hy => ⟨up_ne hy, rfl⟩) d kk
theorem lkX0_46 : Cond.fieldLink RX0 46 "SleepingIslands$Chip" "asking" "I" ∈ gw := gw_of 137 (by decide +kernel) (by decide +kernel)
theorem gfX0_46 (C : Cx E RX0 cc nL p s m args meth c) {k : Nat} (h0 : ob N k 0) (d : decode cc pc = .ok (.getfield 46, 3)) (kk : G E N nL p l e R s m args below meth c cells slots Q I F (pc + 3) ls (.int (I k 14) :: st)) : G E N nL p l e R s m args below meth c cells slots Q I F pc ls (rf E k :: st) := g_get0 C (q := 0) (CN := RX0) (T := TX0) (nf := 19) (j := 14) rfl inX0 (by decide) lkX0_46 rfl h0.2 h0.1 (by decide) (v := .int (I k 14)) rfl d kk
theorem pfX0_46 (C : Cx E RX0 cc nL p s m args meth c) {k : Nat} {x : Int32} (h0 : ob N k 0) (d : decode cc pc = .ok (.putfield 46, 3)) (kk : G E N nL p l e R s m args below meth c cells slots Q (up I k 14 x) F (pc + 3) ls st) : G E N nL p l e R s m args below meth c cells slots Q I F pc ls (.int x :: rf E k :: st) := g_put0 C (q := 0) (CN := RX0) (T := TX0) (nf := 19) (j := 14) rfl inX0 (by decide) lkX0_46 rfl h0.2 h0.1 (by decide) rfl tyX0 tyX0_ok nmX0 (by decide) (v := .int x) (I2 := up I k 14 x) (F2 := F) rfl rfl (fl_up rfl) (fun y hy => ⟨up_ne hy, rfl⟩) d kk
theorem lkX0_52 : Cond.fieldLink RX0 52 "SleepingIslands$Chip" "islands" "I" ∈ gw := gw_of 109 (by decide +kernel) (by decide +kernel)
theorem gfX0_52 (C : Cx E RX0 cc nL p s m args meth c) {k : Nat} (h0 : ob N k 0) (d : decode cc pc = .ok (.getfield 52, 3)) (kk : G E N nL p l e R s m args below meth c cells slots Q I F (pc + 3) ls (.int (I k 0) :: st)) : G E N nL p l e R s m args below meth c cells slots Q I F pc ls (rf E k :: st) := g_get0 C (q := 0) (CN := RX0) (T := TX0) (nf := 19) (j := 0) rfl inX0 (by decide) lkX0_52 rfl h0.2 h0.1 (by decide) (v := .int (I k 0)) rfl d kk
theorem pfX0_52 (C : Cx E RX0 cc nL p s m args meth c) {k : Nat} {x : Int32} (h0 : ob N k 0) (d : decode cc pc = .ok (.putfield 52, 3)) (kk : G E N nL p l e R s m args below meth c cells slots Q (up I k 0 x) F (pc + 3) ls st) : G E N nL p l e R s m args below meth c cells slots Q I F pc ls (.int x :: rf E k :: st) := g_put0 C (q := 0) (CN := RX0) (T := TX0) (nf := 19) (j := 0) rfl inX0 (by decide) lkX0_52 rfl h0.2 h0.1 (by decide) rfl tyX0 tyX0_ok nmX0 (by decide) (v := .int x) (I2 := up I k 0 x) (F2 := F) rfl rfl (fl_up rfl) (fun y hy => ⟨up_ne hy, rfl⟩) d kk
theorem lkX0_55 : Cond.fieldLink RX0 55 "SleepingIslands$Chip" "isolators" "I" ∈ gw := gw_of 112 (by decide +kernel) (by decide +kernel)
theorem gfX0_55 (C : Cx E RX0 cc nL p s m args meth c) {k : Nat} (h0 : ob N k 0) (d : decode cc pc = .ok (.getfield 55, 3)) (kk : G E N nL p l e R s m args below meth c cells slots Q I F (pc + 3) ls (.int (I k 1) :: st)) : G E N nL p l e R s m args below meth c cells slots Q I F pc ls (rf E k :: st) := g_get0 C (q := 0) (CN := RX0) (T := TX0) (nf := 19) (j := 1) rfl inX0 (by decide) lkX0_55 rfl h0.2 h0.1 (by decide) (v := .int (I k 1)) rfl d kk
theorem pfX0_55 (C : Cx E RX0 cc nL p s m args meth c) {k : Nat} {x : Int32} (h0 : ob N k 0) (d : decode cc pc = .ok (.putfield 55, 3)) (kk : G E N nL p l e R s m args below meth c cells slots Q (up I k 1 x) F (pc + 3) ls st) : G E N nL p l e R s m args below meth c cells slots Q I F pc ls (.int x :: rf E k :: st) := g_put0 C (q := 0) (CN := RX0) (T := TX0) (nf := 19) (j := 1) rfl inX0 (by decide) lkX0_55 rfl h0.2 h0.1 (by decide) rfl tyX0 tyX0_ok nmX0 (by decide) (v := .int x) (I2 := up I k 1 x) (F2 := F) rfl rfl (fl_up rfl) (fun y hy => ⟨up_ne hy, rfl⟩) d kk
theorem lkX0_58 : Cond.fieldLink RX0 58 "SleepingIslands$Chip" "keepers" "I" ∈ gw := gw_of 114 (by decide +kernel) (by decide +kernel)
theorem gfX0_58 (C : Cx E RX0 cc nL p s m args meth c) {k : Nat} (h0 : ob N k 0) (d : decode cc pc = .ok (.getfield 58, 3)) (kk : G E N nL p l e R s m args below meth c cells slots Q I F (pc + 3) ls (.int (I k 2) :: st)) : G E N nL p l e R s m args below meth c cells slots Q I F pc ls (rf E k :: st) := g_get0 C (q := 0) (CN := RX0) (T := TX0) (nf := 19) (j := 2) rfl inX0 (by decide) lkX0_58 rfl h0.2 h0.1 (by decide) (v := .int (I k 2)) rfl d kk
theorem pfX0_58 (C : Cx E RX0 cc nL p s m args meth c) {k : Nat} {x : Int32} (h0 : ob N k 0) (d : decode cc pc = .ok (.putfield 58, 3)) (kk : G E N nL p l e R s m args below meth c cells slots Q (up I k 2 x) F (pc + 3) ls st) : G E N nL p l e R s m args below meth c cells slots Q I F pc ls (.int x :: rf E k :: st) := g_put0 C (q := 0) (CN := RX0) (T := TX0) (nf := 19) (j := 2) rfl inX0 (by decide) lkX0_58 rfl h0.2 h0.1 (by decide) rfl tyX0 tyX0_ok nmX0 (by decide) (v := .int x) (I2 := up I k 2 x) (F2 := F) rfl rfl (fl_up rfl) (fun y hy => ⟨up_ne hy, rfl⟩) d kk
theorem lkX0_61 : Cond.fieldLink RX0 61 "SleepingIslands$Chip" "inQueue" "I" ∈ gw := gw_of 133 (by decide +kernel) (by decide +kernel)
theorem gfX0_61 (C : Cx E RX0 cc nL p s m args meth c) {k : Nat} (h0 : ob N k 0) (d : decode cc pc = .ok (.getfield 61, 3)) (kk : G E N nL p l e R s m args below meth c cells slots Q I F (pc + 3) ls (.int (I k 12) :: st)) : G E N nL p l e R s m args below meth c cells slots Q I F pc ls (rf E k :: st) := g_get0 C (q := 0) (CN := RX0) (T := TX0) (nf := 19) (j := 12) rfl inX0 (by decide) lkX0_61 rfl h0.2 h0.1 (by decide) (v := .int (I k 12)) rfl d kk
theorem pfX0_61 (C : Cx E RX0 cc nL p s m args meth c) {k : Nat} {x : Int32} (h0 : ob N k 0) (d : decode cc pc = .ok (.putfield 61, 3)) (kk : G E N nL p l e R s m args below meth c cells slots Q (up I k 12 x) F (pc + 3) ls st) : G E N nL p l e R s m args below meth c cells slots Q I F pc ls (.int x :: rf E k :: st) := g_put0 C (q := 0) (CN := RX0) (T := TX0) (nf := 19) (j := 12) rfl inX0 (by decide) lkX0_61 rfl h0.2 h0.1 (by decide) rfl tyX0 tyX0_ok nmX0 (by decide) (v := .int x) (I2 := up I k 12 x) (F2 := F) rfl rfl (fl_up rfl) (fun y hy => ⟨up_ne hy, rfl⟩) d kk
theorem lkX0_64 : Cond.fieldLink RX0 64 "SleepingIslands$Chip" "ticks" "I" ∈ gw := gw_of 139 (by decide +kernel) (by decide +kernel)
theorem gfX0_64 (C : Cx E RX0 cc nL p s m args meth c) {k : Nat} (h0 : ob N k 0) (d : decode cc pc = .ok (.getfield 64, 3)) (kk : G E N nL p l e R s m args below meth c cells slots Q I F (pc + 3) ls (.int (I k 15) :: st)) : G E N nL p l e R s m args below meth c cells slots Q I F pc ls (rf E k :: st) := g_get0 C (q := 0) (CN := RX0) (T := TX0) (nf := 19) (j := 15) rfl inX0 (by decide) lkX0_64 rfl h0.2 h0.1 (by decide) (v := .int (I k 15)) rfl d kk
theorem pfX0_64 (C : Cx E RX0 cc nL p s m args meth c) {k : Nat} {x : Int32} (h0 : ob N k 0) (d : decode cc pc = .ok (.putfield 64, 3)) (kk : G E N nL p l e R s m args below meth c cells slots Q (up I k 15 x) F (pc + 3) ls st) : G E N nL p l e R s m args below meth c cells slots Q I F pc ls (.int x :: rf E k :: st) := g_put0 C (q := 0) (CN := RX0) (T := TX0) (nf := 19) (j := 15) rfl inX0 (by decide) lkX0_64 rfl h0.2 h0.1 (by decide) rfl tyX0 tyX0_ok nmX0 (by decide) (v := .int x) (I2 := up I k 15 x) (F2 := F) rfl rfl (fl_up rfl) (fun y hy => ⟨up_ne hy, rfl⟩) d kk
theorem lkX0_67 : Cond.fieldLink RX0 67 "SleepingIslands$Chip" "lostValues" "I" ∈ gw := gw_of 141 (by decide +kernel) (by decide +kernel)
theorem gfX0_67 (C : Cx E RX0 cc nL p s m args meth c) {k : Nat} (h0 : ob N k 0) (d : decode cc pc = .ok (.getfield 67, 3)) (kk : G E N nL p l e R s m args below meth c cells slots Q I F (pc + 3) ls (.int (I k 16) :: st)) : G E N nL p l e R s m args below meth c cells slots Q I F pc ls (rf E k :: st) := g_get0 C (q := 0) (CN := RX0) (T := TX0) (nf := 19) (j := 16) rfl inX0 (by decide) lkX0_67 rfl h0.2 h0.1 (by decide) (v := .int (I k 16)) rfl d kk
theorem pfX0_67 (C : Cx E RX0 cc nL p s m args meth c) {k : Nat} {x : Int32} (h0 : ob N k 0) (d : decode cc pc = .ok (.putfield 67, 3)) (kk : G E N nL p l e R s m args below meth c cells slots Q (up I k 16 x) F (pc + 3) ls st) : G E N nL p l e R s m args below meth c cells slots Q I F pc ls (.int x :: rf E k :: st) := g_put0 C (q := 0) (CN := RX0) (T := TX0) (nf := 19) (j := 16) rfl inX0 (by decide) lkX0_67 rfl h0.2 h0.1 (by decide) rfl tyX0 tyX0_ok nmX0 (by decide) (v := .int x) (I2 := up I k 16 x) (F2 := F) rfl rfl (fl_up rfl) (fun y hy => ⟨up_ne hy, rfl⟩) d kk
theorem lkX0_70 : Cond.fieldLink RX0 70 "SleepingIslands$Chip" "greatestLoad" "I" ∈ gw := gw_of 143 (by decide +kernel) (by decide +kernel)
theorem gfX0_70 (C : Cx E RX0 cc nL p s m args meth c) {k : Nat} (h0 : ob N k 0) (d : decode cc pc = .ok (.getfield 70, 3)) (kk : G E N nL p l e R s m args below meth c cells slots Q I F (pc + 3) ls (.int (I k 17) :: st)) : G E N nL p l e R s m args below meth c cells slots Q I F pc ls (rf E k :: st) := g_get0 C (q := 0) (CN := RX0) (T := TX0) (nf := 19) (j := 17) rfl inX0 (by decide) lkX0_70 rfl h0.2 h0.1 (by decide) (v := .int (I k 17)) rfl d kk
theorem pfX0_70 (C : Cx E RX0 cc nL p s m args meth c) {k : Nat} {x : Int32} (h0 : ob N k 0) (d : decode cc pc = .ok (.putfield 70, 3)) (kk : G E N nL p l e R s m args below meth c cells slots Q (up I k 17 x) F (pc + 3) ls st) : G E N nL p l e R s m args below meth c cells slots Q I F pc ls (.int x :: rf E k :: st) := g_put0 C (q := 0) (CN := RX0) (T := TX0) (nf := 19) (j := 17) rfl inX0 (by decide) lkX0_70 rfl h0.2 h0.1 (by decide) rfl tyX0 tyX0_ok nmX0 (by decide) (v := .int x) (I2 := up I k 17 x) (F2 := F) rfl rfl (fl_up rfl) (fun y hy => ⟨up_ne hy, rfl⟩) d kk
theorem lkX1_12 : Cond.fieldLink RX1 12 "SleepingIslands$ChipReader" "chip" "LSleepingIslands$Chip;" ∈ gw := gw_of 215 (by decide +kernel) (by decide +kernel)
theorem gfX1_12 (C : Cx E RX1 cc nL p s m args meth c) {k t : Nat} (h0 : ob N k 1) (hF : F k 0 = some t) (d : decode cc pc = .ok (.getfield 12, 3)) (kk : G E N nL p l e R s m args below meth c cells slots Q I F (pc + 3) ls (rf E t :: st)) : G E N nL p l e R s m args below meth c cells slots Q I F pc ls (rf E k :: st) := g_get0 C (q := 1) (CN := RX1) (T := TX1) (nf := 7) (j := 0) rfl inX1 (by decide) lkX1_12 rfl h0.2 h0.1 (by decide) (v := rf E t) ((show _ = some (rr (pb E) (F k 0)) from rfl).trans (by rw [hF]; rfl)) d kk
theorem pfX1_12 (C : Cx E RX1 cc nL p s m args meth c) (hini : meth.name = "<init>") {k t : Nat} (h0 : ob N k 1) (d : decode cc pc = .ok (.putfield 12, 3)) (kk : G E N nL p l e R s m args below meth c cells slots Q I (ur F k 0 (some t)) (pc + 3) ls st) : G E N nL p l e R s m args below meth c cells slots Q I F pc ls (rf E t :: rf E k :: st) := g_putF0 C (q := 1) (CN := RX1) (T := TX1) (nf := 7) (j := 0) rfl inX1 (by decide) lkX1_12 rfl h0.2 h0.1 (by decide) rfl hini rfl tyX1 tyX1_ok nmX1 (by decide) (v := rf E t) (I2 := I) (F2 := ur F k 0 (some t)) rfl rfl (fl_ur rfl) (fun y hy => ⟨rfl, ur_ne hy⟩) d kk
theorem lkX1_24 : Cond.fieldLinkNest RX1 24 "SleepingIslands$Pad" "length" "I" "SleepingIslands" ∈ nw := nw_of 195 (by decide +kernel) (by decide +kernel)
theorem gfX1_24 (C : Cx E RX1 cc nL p s m args meth c) {k : Nat} (h0 : ob N k 3) (d : decode cc pc = .ok (.getfield 24, 3)) (kk : G E N nL p l e R s m args below meth c cells slots Q I F (pc + 3) ls (.int (I k 1) :: st)) : G E N nL p l e R s m args below meth c cells slots Q I F pc ls (rf E k :: st) := g_getN0 C (q := 3) (CN := RX3) (T := TX3) (nf := 2) (j := 1) rfl inX3 (by decide) lkX1_24 rfl h0.2 h0.1 (by decide) (v := .int (I k 1)) rfl d kk
theorem lkX1_30 : Cond.fieldLinkNest RX1 30 "SleepingIslands$Pad" "signs" "[C" "SleepingIslands" ∈ nw := nw_of 193 (by decide +kernel) (by decide +kernel)
theorem gfX1_30 (C : Cx E RX1 cc nL p s m args meth c) {k t : Nat} (h0 : ob N k 3) (hF : F k 0 = some t) (d : decode cc pc = .ok (.getfield 30, 3)) (kk : G E N nL p l e R s m args below meth c cells slots Q I F (pc + 3) ls (rf E t :: st)) : G E N nL p l e R s m args below meth c cells slots Q I F pc ls (rf E k :: st) := g_getN0 C (q := 3) (CN := RX3) (T := TX3) (nf := 2) (j := 0) rfl inX3 (by decide) lkX1_30 rfl h0.2 h0.1 (by decide) (v := rf E t) ((show _ = some (rr (pb E) (F k 0)) from rfl).trans (by rw [hF]; rfl)) d kk
theorem lkX1_38 : Cond.fieldLink RX1 38 "SleepingIslands$ChipReader" "step" "I" ∈ gw := gw_of 217 (by decide +kernel) (by decide +kernel)
theorem gfX1_38 (C : Cx E RX1 cc nL p s m args meth c) {k : Nat} (h0 : ob N k 1) (d : decode cc pc = .ok (.getfield 38, 3)) (kk : G E N nL p l e R s m args below meth c cells slots Q I F (pc + 3) ls (.int (I k 1) :: st)) : G E N nL p l e R s m args below meth c cells slots Q I F pc ls (rf E k :: st) := g_get0 C (q := 1) (CN := RX1) (T := TX1) (nf := 7) (j := 1) rfl inX1 (by decide) lkX1_38 rfl h0.2 h0.1 (by decide) (v := .int (I k 1)) rfl d kk
theorem pfX1_38 (C : Cx E RX1 cc nL p s m args meth c) {k : Nat} {x : Int32} (h0 : ob N k 1) (d : decode cc pc = .ok (.putfield 38, 3)) (kk : G E N nL p l e R s m args below meth c cells slots Q (up I k 1 x) F (pc + 3) ls st) : G E N nL p l e R s m args below meth c cells slots Q I F pc ls (.int x :: rf E k :: st) := g_put0 C (q := 1) (CN := RX1) (T := TX1) (nf := 7) (j := 1) rfl inX1 (by decide) lkX1_38 rfl h0.2 h0.1 (by decide) rfl tyX1 tyX1_ok nmX1 (by decide) (v := .int x) (I2 := up I k 1 x) (F2 := F) rfl rfl (fl_up rfl) (fun y hy => ⟨up_ne hy, rfl⟩) d kk
theorem lkX1_44 : Cond.fieldLink RX1 44 "SleepingIslands$ChipReader" "isolator" "Z" ∈ gw := gw_of 218 (by decide +kernel) (by decide +kernel)
theorem gfX1_44 (C : Cx E RX1 cc nL p s m args meth c) {k : Nat} (h0 : ob N k 1) (d : decode cc pc = .ok (.getfield 44, 3)) (kk : G E N nL p l e R s m args below meth c cells slots Q I F (pc + 3) ls (.int (I k 2) :: st)) : G E N nL p l e R s m args below meth c cells slots Q I F pc ls (rf E k :: st) := g_get0 C (q := 1) (CN := RX1) (T := TX1) (nf := 7) (j := 2) rfl inX1 (by decide) lkX1_44 rfl h0.2 h0.1 (by decide) (v := .int (I k 2)) rfl d kk
theorem pfX1_44 (C : Cx E RX1 cc nL p s m args meth c) {k : Nat} {x : Int32} (h0 : ob N k 1) (hz : x = 0 ∨ x = 1) (d : decode cc pc = .ok (.putfield 44, 3)) (kk : G E N nL p l e R s m args below meth c cells slots Q (up I k 2 x) F (pc + 3) ls st) : G E N nL p l e R s m args below meth c cells slots Q I F pc ls (.int x :: rf E k :: st) := g_put0 C (q := 1) (CN := RX1) (T := TX1) (nf := 7) (j := 2) rfl inX1 (by decide) lkX1_44 rfl h0.2 h0.1 (by decide) rfl tyX1 tyX1_ok nmX1 (by decide) (v := .int x) (I2 := up I k 2 x) (F2 := F) (by rcases hz with rfl | rfl <;> rfl) (by rcases hz with rfl | rfl <;> rfl) (fl_up rfl) (fun y hy => ⟨up_ne hy, rfl⟩) d kk
theorem lkX1_48 : Cond.fieldLink RX1 48 "SleepingIslands$ChipReader" "keeper" "Z" ∈ gw := gw_of 219 (by decide +kernel) (by decide +kernel)
theorem gfX1_48 (C : Cx E RX1 cc nL p s m args meth c) {k : Nat} (h0 : ob N k 1) (d : decode cc pc = .ok (.getfield 48, 3)) (kk : G E N nL p l e R s m args below meth c cells slots Q I F (pc + 3) ls (.int (I k 3) :: st)) : G E N nL p l e R s m args below meth c cells slots Q I F pc ls (rf E k :: st) := g_get0 C (q := 1) (CN := RX1) (T := TX1) (nf := 7) (j := 3) rfl inX1 (by decide) lkX1_48 rfl h0.2 h0.1 (by decide) (v := .int (I k 3)) rfl d kk
theorem pfX1_48 (C : Cx E RX1 cc nL p s m args meth c) {k : Nat} {x : Int32} (h0 : ob N k 1) (hz : x = 0 ∨ x = 1) (d : decode cc pc = .ok (.putfield 48, 3)) (kk : G E N nL p l e R s m args below meth c cells slots Q (up I k 3 x) F (pc + 3) ls st) : G E N nL p l e R s m args below meth c cells slots Q I F pc ls (.int x :: rf E k :: st) := g_put0 C (q := 1) (CN := RX1) (T := TX1) (nf := 7) (j := 3) rfl inX1 (by decide) lkX1_48 rfl h0.2 h0.1 (by decide) rfl tyX1 tyX1_ok nmX1 (by decide) (v := .int x) (I2 := up I k 3 x) (F2 := F) (by rcases hz with rfl | rfl <;> rfl) (by rcases hz with rfl | rfl <;> rfl) (fl_up rfl) (fun y hy => ⟨up_ne hy, rfl⟩) d kk
theorem lkX1_51 : Cond.fieldLink RX1 51 "SleepingIslands$ChipReader" "rise" "I" ∈ gw := gw_of 220 (by decide +kernel) (by decide +kernel)
theorem gfX1_51 (C : Cx E RX1 cc nL p s m args meth c) {k : Nat} (h0 : ob N k 1) (d : decode cc pc = .ok (.getfield 51, 3)) (kk : G E N nL p l e R s m args below meth c cells slots Q I F (pc + 3) ls (.int (I k 4) :: st)) : G E N nL p l e R s m args below meth c cells slots Q I F pc ls (rf E k :: st) := g_get0 C (q := 1) (CN := RX1) (T := TX1) (nf := 7) (j := 4) rfl inX1 (by decide) lkX1_51 rfl h0.2 h0.1 (by decide) (v := .int (I k 4)) rfl d kk
theorem pfX1_51 (C : Cx E RX1 cc nL p s m args meth c) {k : Nat} {x : Int32} (h0 : ob N k 1) (d : decode cc pc = .ok (.putfield 51, 3)) (kk : G E N nL p l e R s m args below meth c cells slots Q (up I k 4 x) F (pc + 3) ls st) : G E N nL p l e R s m args below meth c cells slots Q I F pc ls (.int x :: rf E k :: st) := g_put0 C (q := 1) (CN := RX1) (T := TX1) (nf := 7) (j := 4) rfl inX1 (by decide) lkX1_51 rfl h0.2 h0.1 (by decide) rfl tyX1 tyX1_ok nmX1 (by decide) (v := .int x) (I2 := up I k 4 x) (F2 := F) rfl rfl (fl_up rfl) (fun y hy => ⟨up_ne hy, rfl⟩) d kk
theorem lkX1_54 : Cond.fieldLink RX1 54 "SleepingIslands$ChipReader" "load" "I" ∈ gw := gw_of 221 (by decide +kernel) (by decide +kernel)
theorem gfX1_54 (C : Cx E RX1 cc nL p s m args meth c) {k : Nat} (h0 : ob N k 1) (d : decode cc pc = .ok (.getfield 54, 3)) (kk : G E N nL p l e R s m args below meth c cells slots Q I F (pc + 3) ls (.int (I k 5) :: st)) : G E N nL p l e R s m args below meth c cells slots Q I F pc ls (rf E k :: st) := g_get0 C (q := 1) (CN := RX1) (T := TX1) (nf := 7) (j := 5) rfl inX1 (by decide) lkX1_54 rfl h0.2 h0.1 (by decide) (v := .int (I k 5)) rfl d kk
theorem pfX1_54 (C : Cx E RX1 cc nL p s m args meth c) {k : Nat} {x : Int32} (h0 : ob N k 1) (d : decode cc pc = .ok (.putfield 54, 3)) (kk : G E N nL p l e R s m args below meth c cells slots Q (up I k 5 x) F (pc + 3) ls st) : G E N nL p l e R s m args below meth c cells slots Q I F pc ls (.int x :: rf E k :: st) := g_put0 C (q := 1) (CN := RX1) (T := TX1) (nf := 7) (j := 5) rfl inX1 (by decide) lkX1_54 rfl h0.2 h0.1 (by decide) rfl tyX1 tyX1_ok nmX1 (by decide) (v := .int x) (I2 := up I k 5 x) (F2 := F) rfl rfl (fl_up rfl) (fun y hy => ⟨up_ne hy, rfl⟩) d kk
theorem lkX1_57 : Cond.fieldLink RX1 57 "SleepingIslands$ChipReader" "reads" "I" ∈ gw := gw_of 222 (by decide +kernel) (by decide +kernel)
theorem gfX1_57 (C : Cx E RX1 cc nL p s m args meth c) {k : Nat} (h0 : ob N k 1) (d : decode cc pc = .ok (.getfield 57, 3)) (kk : G E N nL p l e R s m args below meth c cells slots Q I F (pc + 3) ls (.int (I k 6) :: st)) : G E N nL p l e R s m args below meth c cells slots Q I F pc ls (rf E k :: st) := g_get0 C (q := 1) (CN := RX1) (T := TX1) (nf := 7) (j := 6) rfl inX1 (by decide) lkX1_57 rfl h0.2 h0.1 (by decide) (v := .int (I k 6)) rfl d kk
theorem pfX1_57 (C : Cx E RX1 cc nL p s m args meth c) {k : Nat} {x : Int32} (h0 : ob N k 1) (d : decode cc pc = .ok (.putfield 57, 3)) (kk : G E N nL p l e R s m args below meth c cells slots Q (up I k 6 x) F (pc + 3) ls st) : G E N nL p l e R s m args below meth c cells slots Q I F pc ls (.int x :: rf E k :: st) := g_put0 C (q := 1) (CN := RX1) (T := TX1) (nf := 7) (j := 6) rfl inX1 (by decide) lkX1_57 rfl h0.2 h0.1 (by decide) rfl tyX1 tyX1_ok nmX1 (by decide) (v := .int x) (I2 := up I k 6 x) (F2 := F) rfl rfl (fl_up rfl) (fun y hy => ⟨up_ne hy, rfl⟩) d kk
theorem lkX1_92 : Cond.fieldLinkNest RX1 92 "SleepingIslands$Chip" "islands" "I" "SleepingIslands" ∈ nw := nw_of 111 (by decide +kernel) (by decide +kernel)
theorem gfX1_92 (C : Cx E RX1 cc nL p s m args meth c) {k : Nat} (h0 : ob N k 0) (d : decode cc pc = .ok (.getfield 92, 3)) (kk : G E N nL p l e R s m args below meth c cells slots Q I F (pc + 3) ls (.int (I k 0) :: st)) : G E N nL p l e R s m args below meth c cells slots Q I F pc ls (rf E k :: st) := g_getN0 C (q := 0) (CN := RX0) (T := TX0) (nf := 19) (j := 0) rfl inX0 (by decide) lkX1_92 rfl h0.2 h0.1 (by decide) (v := .int (I k 0)) rfl d kk
theorem lkX2_11 : Cond.fieldLink RX2 11 "SleepingIslands$History" "before" "[LSleepingIslands$Chip;" ∈ gw := gw_of 247 (by decide +kernel) (by decide +kernel)
theorem gfX2_11 (C : Cx E RX2 cc nL p s m args meth c) {k t : Nat} (h0 : ob N k 2) (hF : F k 0 = some t) (d : decode cc pc = .ok (.getfield 11, 3)) (kk : G E N nL p l e R s m args below meth c cells slots Q I F (pc + 3) ls (rf E t :: st)) : G E N nL p l e R s m args below meth c cells slots Q I F pc ls (rf E k :: st) := g_get0 C (q := 2) (CN := RX2) (T := TX2) (nf := 2) (j := 0) rfl inX2 (by decide) lkX2_11 rfl h0.2 h0.1 (by decide) (v := rf E t) ((show _ = some (rr (pb E) (F k 0)) from rfl).trans (by rw [hF]; rfl)) d kk
theorem pfX2_11 (C : Cx E RX2 cc nL p s m args meth c) (hini : meth.name = "<init>") {k t : Nat} (h0 : ob N k 2) (d : decode cc pc = .ok (.putfield 11, 3)) (kk : G E N nL p l e R s m args below meth c cells slots Q I (ur F k 0 (some t)) (pc + 3) ls st) : G E N nL p l e R s m args below meth c cells slots Q I F pc ls (rf E t :: rf E k :: st) := g_putF0 C (q := 2) (CN := RX2) (T := TX2) (nf := 2) (j := 0) rfl inX2 (by decide) lkX2_11 rfl h0.2 h0.1 (by decide) rfl hini rfl tyX2 tyX2_ok nmX2 (by decide) (v := rf E t) (I2 := I) (F2 := ur F k 0 (some t)) rfl rfl (fl_ur rfl) (fun y hy => ⟨rfl, ur_ne hy⟩) d kk
theorem lkX2_17 : Cond.fieldLink RX2 17 "SleepingIslands$History" "many" "I" ∈ gw := gw_of 248 (by decide +kernel) (by decide +kernel)
theorem gfX2_17 (C : Cx E RX2 cc nL p s m args meth c) {k : Nat} (h0 : ob N k 2) (d : decode cc pc = .ok (.getfield 17, 3)) (kk : G E N nL p l e R s m args below meth c cells slots Q I F (pc + 3) ls (.int (I k 1) :: st)) : G E N nL p l e R s m args below meth c cells slots Q I F pc ls (rf E k :: st) := g_get0 C (q := 2) (CN := RX2) (T := TX2) (nf := 2) (j := 1) rfl inX2 (by decide) lkX2_17 rfl h0.2 h0.1 (by decide) (v := .int (I k 1)) rfl d kk
theorem pfX2_17 (C : Cx E RX2 cc nL p s m args meth c) {k : Nat} {x : Int32} (h0 : ob N k 2) (d : decode cc pc = .ok (.putfield 17, 3)) (kk : G E N nL p l e R s m args below meth c cells slots Q (up I k 1 x) F (pc + 3) ls st) : G E N nL p l e R s m args below meth c cells slots Q I F pc ls (.int x :: rf E k :: st) := g_put0 C (q := 2) (CN := RX2) (T := TX2) (nf := 2) (j := 1) rfl inX2 (by decide) lkX2_17 rfl h0.2 h0.1 (by decide) rfl tyX2 tyX2_ok nmX2 (by decide) (v := .int x) (I2 := up I k 1 x) (F2 := F) rfl rfl (fl_up rfl) (fun y hy => ⟨up_ne hy, rfl⟩) d kk
theorem lkX3_9 : Cond.fieldLink RX3 9 "SleepingIslands$Pad" "signs" "[C" ∈ gw := gw_of 192 (by decide +kernel) (by decide +kernel)
theorem gfX3_9 (C : Cx E RX3 cc nL p s m args meth c) {k t : Nat} (h0 : ob N k 3) (hF : F k 0 = some t) (d : decode cc pc = .ok (.getfield 9, 3)) (kk : G E N nL p l e R s m args below meth c cells slots Q I F (pc + 3) ls (rf E t :: st)) : G E N nL p l e R s m args below meth c cells slots Q I F pc ls (rf E k :: st) := g_get0 C (q := 3) (CN := RX3) (T := TX3) (nf := 2) (j := 0) rfl inX3 (by decide) lkX3_9 rfl h0.2 h0.1 (by decide) (v := rf E t) ((show _ = some (rr (pb E) (F k 0)) from rfl).trans (by rw [hF]; rfl)) d kk
theorem pfX3_9 (C : Cx E RX3 cc nL p s m args meth c) (hini : meth.name = "<init>") {k t : Nat} (h0 : ob N k 3) (d : decode cc pc = .ok (.putfield 9, 3)) (kk : G E N nL p l e R s m args below meth c cells slots Q I (ur F k 0 (some t)) (pc + 3) ls st) : G E N nL p l e R s m args below meth c cells slots Q I F pc ls (rf E t :: rf E k :: st) := g_putF0 C (q := 3) (CN := RX3) (T := TX3) (nf := 2) (j := 0) rfl inX3 (by decide) lkX3_9 rfl h0.2 h0.1 (by decide) rfl hini rfl tyX3 tyX3_ok nmX3 (by decide) (v := rf E t) (I2 := I) (F2 := ur F k 0 (some t)) rfl rfl (fl_ur rfl) (fun y hy => ⟨rfl, ur_ne hy⟩) d kk
theorem lkX3_15 : Cond.fieldLink RX3 15 "SleepingIslands$Pad" "length" "I" ∈ gw := gw_of 194 (by decide +kernel) (by decide +kernel)
theorem gfX3_15 (C : Cx E RX3 cc nL p s m args meth c) {k : Nat} (h0 : ob N k 3) (d : decode cc pc = .ok (.getfield 15, 3)) (kk : G E N nL p l e R s m args below meth c cells slots Q I F (pc + 3) ls (.int (I k 1) :: st)) : G E N nL p l e R s m args below meth c cells slots Q I F pc ls (rf E k :: st) := g_get0 C (q := 3) (CN := RX3) (T := TX3) (nf := 2) (j := 1) rfl inX3 (by decide) lkX3_15 rfl h0.2 h0.1 (by decide) (v := .int (I k 1)) rfl d kk
theorem pfX3_15 (C : Cx E RX3 cc nL p s m args meth c) {k : Nat} {x : Int32} (h0 : ob N k 3) (d : decode cc pc = .ok (.putfield 15, 3)) (kk : G E N nL p l e R s m args below meth c cells slots Q (up I k 1 x) F (pc + 3) ls st) : G E N nL p l e R s m args below meth c cells slots Q I F pc ls (.int x :: rf E k :: st) := g_put0 C (q := 3) (CN := RX3) (T := TX3) (nf := 2) (j := 1) rfl inX3 (by decide) lkX3_15 rfl h0.2 h0.1 (by decide) rfl tyX3 tyX3_ok nmX3 (by decide) (v := .int x) (I2 := up I k 1 x) (F2 := F) rfl rfl (fl_up rfl) (fun y hy => ⟨up_ne hy, rfl⟩) d kk
theorem lkX5_7 : Cond.fieldLink RX5 7 "SleepingIslandsModel" "state" "[I" ∈ gw := gw_of 595 (by decide +kernel) (by decide +kernel)
theorem gfX5_7 (C : Cx E RX5 cc nL p s m args meth c) {k t : Nat} (h0 : ob N k 5) (hF : F k 0 = some t) (d : decode cc pc = .ok (.getfield 7, 3)) (kk : G E N nL p l e R s m args below meth c cells slots Q I F (pc + 3) ls (rf E t :: st)) : G E N nL p l e R s m args below meth c cells slots Q I F pc ls (rf E k :: st) := g_get0 C (q := 5) (CN := RX5) (T := TX5) (nf := 16) (j := 0) rfl inX5 (by decide) lkX5_7 rfl h0.2 h0.1 (by decide) (v := rf E t) ((show _ = some (rr (pb E) (F k 0)) from rfl).trans (by rw [hF]; rfl)) d kk
theorem pfX5_7 (C : Cx E RX5 cc nL p s m args meth c) (hini : meth.name = "<init>") {k t : Nat} (h0 : ob N k 5) (d : decode cc pc = .ok (.putfield 7, 3)) (kk : G E N nL p l e R s m args below meth c cells slots Q I (ur F k 0 (some t)) (pc + 3) ls st) : G E N nL p l e R s m args below meth c cells slots Q I F pc ls (rf E t :: rf E k :: st) := g_putF0 C (q := 5) (CN := RX5) (T := TX5) (nf := 16) (j := 0) rfl inX5 (by decide) lkX5_7 rfl h0.2 h0.1 (by decide) rfl hini rfl tyX5 tyX5_ok nmX5 (by decide) (v := rf E t) (I2 := I) (F2 := ur F k 0 (some t)) rfl rfl (fl_ur rfl) (fun y hy => ⟨rfl, ur_ne hy⟩) d kk
theorem lkX5_13 : Cond.fieldLink RX5 13 "SleepingIslandsModel" "kept" "[I" ∈ gw := gw_of 596 (by decide +kernel) (by decide +kernel)
theorem gfX5_13 (C : Cx E RX5 cc nL p s m args meth c) {k t : Nat} (h0 : ob N k 5) (hF : F k 1 = some t) (d : decode cc pc = .ok (.getfield 13, 3)) (kk : G E N nL p l e R s m args below meth c cells slots Q I F (pc + 3) ls (rf E t :: st)) : G E N nL p l e R s m args below meth c cells slots Q I F pc ls (rf E k :: st) := g_get0 C (q := 5) (CN := RX5) (T := TX5) (nf := 16) (j := 1) rfl inX5 (by decide) lkX5_13 rfl h0.2 h0.1 (by decide) (v := rf E t) ((show _ = some (rr (pb E) (F k 1)) from rfl).trans (by rw [hF]; rfl)) d kk
theorem pfX5_13 (C : Cx E RX5 cc nL p s m args meth c) (hini : meth.name = "<init>") {k t : Nat} (h0 : ob N k 5) (d : decode cc pc = .ok (.putfield 13, 3)) (kk : G E N nL p l e R s m args below meth c cells slots Q I (ur F k 1 (some t)) (pc + 3) ls st) : G E N nL p l e R s m args below meth c cells slots Q I F pc ls (rf E t :: rf E k :: st) := g_putF0 C (q := 5) (CN := RX5) (T := TX5) (nf := 16) (j := 1) rfl inX5 (by decide) lkX5_13 rfl h0.2 h0.1 (by decide) rfl hini rfl tyX5 tyX5_ok nmX5 (by decide) (v := rf E t) (I2 := I) (F2 := ur F k 1 (some t)) rfl rfl (fl_ur rfl) (fun y hy => ⟨rfl, ur_ne hy⟩) d kk
theorem lkX5_16 : Cond.fieldLink RX5 16 "SleepingIslandsModel" "history" "[I" ∈ gw := gw_of 597 (by decide +kernel) (by decide +kernel)
theorem gfX5_16 (C : Cx E RX5 cc nL p s m args meth c) {k t : Nat} (h0 : ob N k 5) (hF : F k 2 = some t) (d : decode cc pc = .ok (.getfield 16, 3)) (kk : G E N nL p l e R s m args below meth c cells slots Q I F (pc + 3) ls (rf E t :: st)) : G E N nL p l e R s m args below meth c cells slots Q I F pc ls (rf E k :: st) := g_get0 C (q := 5) (CN := RX5) (T := TX5) (nf := 16) (j := 2) rfl inX5 (by decide) lkX5_16 rfl h0.2 h0.1 (by decide) (v := rf E t) ((show _ = some (rr (pb E) (F k 2)) from rfl).trans (by rw [hF]; rfl)) d kk
theorem pfX5_16 (C : Cx E RX5 cc nL p s m args meth c) (hini : meth.name = "<init>") {k t : Nat} (h0 : ob N k 5) (d : decode cc pc = .ok (.putfield 16, 3)) (kk : G E N nL p l e R s m args below meth c cells slots Q I (ur F k 2 (some t)) (pc + 3) ls st) : G E N nL p l e R s m args below meth c cells slots Q I F pc ls (rf E t :: rf E k :: st) := g_putF0 C (q := 5) (CN := RX5) (T := TX5) (nf := 16) (j := 2) rfl inX5 (by decide) lkX5_16 rfl h0.2 h0.1 (by decide) rfl hini rfl tyX5 tyX5_ok nmX5 (by decide) (v := rf E t) (I2 := I) (F2 := ur F k 2 (some t)) rfl rfl (fl_ur rfl) (fun y hy => ⟨rfl, ur_ne hy⟩) d kk
theorem lkX5_19 : Cond.fieldLink RX5 19 "SleepingIslandsModel" "slots" "[I" ∈ gw := gw_of 599 (by decide +kernel) (by decide +kernel)
theorem gfX5_19 (C : Cx E RX5 cc nL p s m args meth c) {k t : Nat} (h0 : ob N k 5) (hF : F k 4 = some t) (d : decode cc pc = .ok (.getfield 19, 3)) (kk : G E N nL p l e R s m args below meth c cells slots Q I F (pc + 3) ls (rf E t :: st)) : G E N nL p l e R s m args below meth c cells slots Q I F pc ls (rf E k :: st) := g_get0 C (q := 5) (CN := RX5) (T := TX5) (nf := 16) (j := 4) rfl inX5 (by decide) lkX5_19 rfl h0.2 h0.1 (by decide) (v := rf E t) ((show _ = some (rr (pb E) (F k 4)) from rfl).trans (by rw [hF]; rfl)) d kk
theorem pfX5_19 (C : Cx E RX5 cc nL p s m args meth c) (hini : meth.name = "<init>") {k t : Nat} (h0 : ob N k 5) (d : decode cc pc = .ok (.putfield 19, 3)) (kk : G E N nL p l e R s m args below meth c cells slots Q I (ur F k 4 (some t)) (pc + 3) ls st) : G E N nL p l e R s m args below meth c cells slots Q I F pc ls (rf E t :: rf E k :: st) := g_putF0 C (q := 5) (CN := RX5) (T := TX5) (nf := 16) (j := 4) rfl inX5 (by decide) lkX5_19 rfl h0.2 h0.1 (by decide) rfl hini rfl tyX5 tyX5_ok nmX5 (by decide) (v := rf E t) (I2 := I) (F2 := ur F k 4 (some t)) rfl rfl (fl_ur rfl) (fun y hy => ⟨rfl, ur_ne hy⟩) d kk
theorem lkX5_22 : Cond.fieldLink RX5 22 "SleepingIslandsModel" "isSaved" "[I" ∈ gw := gw_of 600 (by decide +kernel) (by decide +kernel)
theorem gfX5_22 (C : Cx E RX5 cc nL p s m args meth c) {k t : Nat} (h0 : ob N k 5) (hF : F k 5 = some t) (d : decode cc pc = .ok (.getfield 22, 3)) (kk : G E N nL p l e R s m args below meth c cells slots Q I F (pc + 3) ls (rf E t :: st)) : G E N nL p l e R s m args below meth c cells slots Q I F pc ls (rf E k :: st) := g_get0 C (q := 5) (CN := RX5) (T := TX5) (nf := 16) (j := 5) rfl inX5 (by decide) lkX5_22 rfl h0.2 h0.1 (by decide) (v := rf E t) ((show _ = some (rr (pb E) (F k 5)) from rfl).trans (by rw [hF]; rfl)) d kk
theorem pfX5_22 (C : Cx E RX5 cc nL p s m args meth c) (hini : meth.name = "<init>") {k t : Nat} (h0 : ob N k 5) (d : decode cc pc = .ok (.putfield 22, 3)) (kk : G E N nL p l e R s m args below meth c cells slots Q I (ur F k 5 (some t)) (pc + 3) ls st) : G E N nL p l e R s m args below meth c cells slots Q I F pc ls (rf E t :: rf E k :: st) := g_putF0 C (q := 5) (CN := RX5) (T := TX5) (nf := 16) (j := 5) rfl inX5 (by decide) lkX5_22 rfl h0.2 h0.1 (by decide) rfl hini rfl tyX5 tyX5_ok nmX5 (by decide) (v := rf E t) (I2 := I) (F2 := ur F k 5 (some t)) rfl rfl (fl_ur rfl) (fun y hy => ⟨rfl, ur_ne hy⟩) d kk
theorem lkX5_25 : Cond.fieldLink RX5 25 "SleepingIslandsModel" "pad" "[I" ∈ gw := gw_of 601 (by decide +kernel) (by decide +kernel)
theorem gfX5_25 (C : Cx E RX5 cc nL p s m args meth c) {k t : Nat} (h0 : ob N k 5) (hF : F k 6 = some t) (d : decode cc pc = .ok (.getfield 25, 3)) (kk : G E N nL p l e R s m args below meth c cells slots Q I F (pc + 3) ls (rf E t :: st)) : G E N nL p l e R s m args below meth c cells slots Q I F pc ls (rf E k :: st) := g_get0 C (q := 5) (CN := RX5) (T := TX5) (nf := 16) (j := 6) rfl inX5 (by decide) lkX5_25 rfl h0.2 h0.1 (by decide) (v := rf E t) ((show _ = some (rr (pb E) (F k 6)) from rfl).trans (by rw [hF]; rfl)) d kk
theorem pfX5_25 (C : Cx E RX5 cc nL p s m args meth c) (hini : meth.name = "<init>") {k t : Nat} (h0 : ob N k 5) (d : decode cc pc = .ok (.putfield 25, 3)) (kk : G E N nL p l e R s m args below meth c cells slots Q I (ur F k 6 (some t)) (pc + 3) ls st) : G E N nL p l e R s m args below meth c cells slots Q I F pc ls (rf E t :: rf E k :: st) := g_putF0 C (q := 5) (CN := RX5) (T := TX5) (nf := 16) (j := 6) rfl inX5 (by decide) lkX5_25 rfl h0.2 h0.1 (by decide) rfl hini rfl tyX5 tyX5_ok nmX5 (by decide) (v := rf E t) (I2 := I) (F2 := ur F k 6 (some t)) rfl rfl (fl_ur rfl) (fun y hy => ⟨rfl, ur_ne hy⟩) d kk
theorem lkX5_28 : Cond.fieldLink RX5 28 "SleepingIslandsModel" "tells" "[I" ∈ gw := gw_of 603 (by decide +kernel) (by decide +kernel)
theorem gfX5_28 (C : Cx E RX5 cc nL p s m args meth c) {k t : Nat} (h0 : ob N k 5) (hF : F k 8 = some t) (d : decode cc pc = .ok (.getfield 28, 3)) (kk : G E N nL p l e R s m args below meth c cells slots Q I F (pc + 3) ls (rf E t :: st)) : G E N nL p l e R s m args below meth c cells slots Q I F pc ls (rf E k :: st) := g_get0 C (q := 5) (CN := RX5) (T := TX5) (nf := 16) (j := 8) rfl inX5 (by decide) lkX5_28 rfl h0.2 h0.1 (by decide) (v := rf E t) ((show _ = some (rr (pb E) (F k 8)) from rfl).trans (by rw [hF]; rfl)) d kk
theorem pfX5_28 (C : Cx E RX5 cc nL p s m args meth c) (hini : meth.name = "<init>") {k t : Nat} (h0 : ob N k 5) (d : decode cc pc = .ok (.putfield 28, 3)) (kk : G E N nL p l e R s m args below meth c cells slots Q I (ur F k 8 (some t)) (pc + 3) ls st) : G E N nL p l e R s m args below meth c cells slots Q I F pc ls (rf E t :: rf E k :: st) := g_putF0 C (q := 5) (CN := RX5) (T := TX5) (nf := 16) (j := 8) rfl inX5 (by decide) lkX5_28 rfl h0.2 h0.1 (by decide) rfl hini rfl tyX5 tyX5_ok nmX5 (by decide) (v := rf E t) (I2 := I) (F2 := ur F k 8 (some t)) rfl rfl (fl_ur rfl) (fun y hy => ⟨rfl, ur_ne hy⟩) d kk
theorem lkX5_31 : Cond.fieldLink RX5 31 "SleepingIslandsModel" "isNoise" "[I" ∈ gw := gw_of 604 (by decide +kernel) (by decide +kernel)
theorem gfX5_31 (C : Cx E RX5 cc nL p s m args meth c) {k t : Nat} (h0 : ob N k 5) (hF : F k 9 = some t) (d : decode cc pc = .ok (.getfield 31, 3)) (kk : G E N nL p l e R s m args below meth c cells slots Q I F (pc + 3) ls (rf E t :: st)) : G E N nL p l e R s m args below meth c cells slots Q I F pc ls (rf E k :: st) := g_get0 C (q := 5) (CN := RX5) (T := TX5) (nf := 16) (j := 9) rfl inX5 (by decide) lkX5_31 rfl h0.2 h0.1 (by decide) (v := rf E t) ((show _ = some (rr (pb E) (F k 9)) from rfl).trans (by rw [hF]; rfl)) d kk
theorem pfX5_31 (C : Cx E RX5 cc nL p s m args meth c) (hini : meth.name = "<init>") {k t : Nat} (h0 : ob N k 5) (d : decode cc pc = .ok (.putfield 31, 3)) (kk : G E N nL p l e R s m args below meth c cells slots Q I (ur F k 9 (some t)) (pc + 3) ls st) : G E N nL p l e R s m args below meth c cells slots Q I F pc ls (rf E t :: rf E k :: st) := g_putF0 C (q := 5) (CN := RX5) (T := TX5) (nf := 16) (j := 9) rfl inX5 (by decide) lkX5_31 rfl h0.2 h0.1 (by decide) rfl hini rfl tyX5 tyX5_ok nmX5 (by decide) (v := rf E t) (I2 := I) (F2 := ur F k 9 (some t)) rfl rfl (fl_ur rfl) (fun y hy => ⟨rfl, ur_ne hy⟩) d kk
theorem lkX5_34 : Cond.fieldLink RX5 34 "SleepingIslandsModel" "recorded" "I" ∈ gw := gw_of 598 (by decide +kernel) (by decide +kernel)
theorem gfX5_34 (C : Cx E RX5 cc nL p s m args meth c) {k : Nat} (h0 : ob N k 5) (d : decode cc pc = .ok (.getfield 34, 3)) (kk : G E N nL p l e R s m args below meth c cells slots Q I F (pc + 3) ls (.int (I k 3) :: st)) : G E N nL p l e R s m args below meth c cells slots Q I F pc ls (rf E k :: st) := g_get0 C (q := 5) (CN := RX5) (T := TX5) (nf := 16) (j := 3) rfl inX5 (by decide) lkX5_34 rfl h0.2 h0.1 (by decide) (v := .int (I k 3)) rfl d kk
theorem pfX5_34 (C : Cx E RX5 cc nL p s m args meth c) {k : Nat} {x : Int32} (h0 : ob N k 5) (d : decode cc pc = .ok (.putfield 34, 3)) (kk : G E N nL p l e R s m args below meth c cells slots Q (up I k 3 x) F (pc + 3) ls st) : G E N nL p l e R s m args below meth c cells slots Q I F pc ls (.int x :: rf E k :: st) := g_put0 C (q := 5) (CN := RX5) (T := TX5) (nf := 16) (j := 3) rfl inX5 (by decide) lkX5_34 rfl h0.2 h0.1 (by decide) rfl tyX5 tyX5_ok nmX5 (by decide) (v := .int x) (I2 := up I k 3 x) (F2 := F) rfl rfl (fl_up rfl) (fun y hy => ⟨up_ne hy, rfl⟩) d kk
theorem lkX5_114 : Cond.fieldLink RX5 114 "SleepingIslandsModel" "at" "I" ∈ gw := gw_of 605 (by decide +kernel) (by decide +kernel)
theorem gfX5_114 (C : Cx E RX5 cc nL p s m args meth c) {k : Nat} (h0 : ob N k 5) (d : decode cc pc = .ok (.getfield 114, 3)) (kk : G E N nL p l e R s m args below meth c cells slots Q I F (pc + 3) ls (.int (I k 10) :: st)) : G E N nL p l e R s m args below meth c cells slots Q I F pc ls (rf E k :: st) := g_get0 C (q := 5) (CN := RX5) (T := TX5) (nf := 16) (j := 10) rfl inX5 (by decide) lkX5_114 rfl h0.2 h0.1 (by decide) (v := .int (I k 10)) rfl d kk
theorem pfX5_114 (C : Cx E RX5 cc nL p s m args meth c) {k : Nat} {x : Int32} (h0 : ob N k 5) (d : decode cc pc = .ok (.putfield 114, 3)) (kk : G E N nL p l e R s m args below meth c cells slots Q (up I k 10 x) F (pc + 3) ls st) : G E N nL p l e R s m args below meth c cells slots Q I F pc ls (.int x :: rf E k :: st) := g_put0 C (q := 5) (CN := RX5) (T := TX5) (nf := 16) (j := 10) rfl inX5 (by decide) lkX5_114 rfl h0.2 h0.1 (by decide) rfl tyX5 tyX5_ok nmX5 (by decide) (v := .int x) (I2 := up I k 10 x) (F2 := F) rfl rfl (fl_up rfl) (fun y hy => ⟨up_ne hy, rfl⟩) d kk
theorem lkX5_117 : Cond.fieldLink RX5 117 "SleepingIslandsModel" "padLength" "I" ∈ gw := gw_of 602 (by decide +kernel) (by decide +kernel)
theorem gfX5_117 (C : Cx E RX5 cc nL p s m args meth c) {k : Nat} (h0 : ob N k 5) (d : decode cc pc = .ok (.getfield 117, 3)) (kk : G E N nL p l e R s m args below meth c cells slots Q I F (pc + 3) ls (.int (I k 7) :: st)) : G E N nL p l e R s m args below meth c cells slots Q I F pc ls (rf E k :: st) := g_get0 C (q := 5) (CN := RX5) (T := TX5) (nf := 16) (j := 7) rfl inX5 (by decide) lkX5_117 rfl h0.2 h0.1 (by decide) (v := .int (I k 7)) rfl d kk
theorem pfX5_117 (C : Cx E RX5 cc nL p s m args meth c) {k : Nat} {x : Int32} (h0 : ob N k 5) (d : decode cc pc = .ok (.putfield 117, 3)) (kk : G E N nL p l e R s m args below meth c cells slots Q (up I k 7 x) F (pc + 3) ls st) : G E N nL p l e R s m args below meth c cells slots Q I F pc ls (.int x :: rf E k :: st) := g_put0 C (q := 5) (CN := RX5) (T := TX5) (nf := 16) (j := 7) rfl inX5 (by decide) lkX5_117 rfl h0.2 h0.1 (by decide) rfl tyX5 tyX5_ok nmX5 (by decide) (v := .int x) (I2 := up I k 7 x) (F2 := F) rfl rfl (fl_up rfl) (fun y hy => ⟨up_ne hy, rfl⟩) d kk
theorem lkX5_126 : Cond.fieldLink RX5 126 "SleepingIslandsModel" "readsTold" "I" ∈ gw := gw_of 610 (by decide +kernel) (by decide +kernel)
theorem gfX5_126 (C : Cx E RX5 cc nL p s m args meth c) {k : Nat} (h0 : ob N k 5) (d : decode cc pc = .ok (.getfield 126, 3)) (kk : G E N nL p l e R s m args below meth c cells slots Q I F (pc + 3) ls (.int (I k 15) :: st)) : G E N nL p l e R s m args below meth c cells slots Q I F pc ls (rf E k :: st) := g_get0 C (q := 5) (CN := RX5) (T := TX5) (nf := 16) (j := 15) rfl inX5 (by decide) lkX5_126 rfl h0.2 h0.1 (by decide) (v := .int (I k 15)) rfl d kk
theorem pfX5_126 (C : Cx E RX5 cc nL p s m args meth c) {k : Nat} {x : Int32} (h0 : ob N k 5) (d : decode cc pc = .ok (.putfield 126, 3)) (kk : G E N nL p l e R s m args below meth c cells slots Q (up I k 15 x) F (pc + 3) ls st) : G E N nL p l e R s m args below meth c cells slots Q I F pc ls (.int x :: rf E k :: st) := g_put0 C (q := 5) (CN := RX5) (T := TX5) (nf := 16) (j := 15) rfl inX5 (by decide) lkX5_126 rfl h0.2 h0.1 (by decide) rfl tyX5 tyX5_ok nmX5 (by decide) (v := .int x) (I2 := up I k 15 x) (F2 := F) rfl rfl (fl_up rfl) (fun y hy => ⟨up_ne hy, rfl⟩) d kk
theorem lkX5_135 : Cond.fieldLink RX5 135 "SleepingIslandsModel" "isolatorTold" "I" ∈ gw := gw_of 606 (by decide +kernel) (by decide +kernel)
theorem gfX5_135 (C : Cx E RX5 cc nL p s m args meth c) {k : Nat} (h0 : ob N k 5) (d : decode cc pc = .ok (.getfield 135, 3)) (kk : G E N nL p l e R s m args below meth c cells slots Q I F (pc + 3) ls (.int (I k 11) :: st)) : G E N nL p l e R s m args below meth c cells slots Q I F pc ls (rf E k :: st) := g_get0 C (q := 5) (CN := RX5) (T := TX5) (nf := 16) (j := 11) rfl inX5 (by decide) lkX5_135 rfl h0.2 h0.1 (by decide) (v := .int (I k 11)) rfl d kk
theorem pfX5_135 (C : Cx E RX5 cc nL p s m args meth c) {k : Nat} {x : Int32} (h0 : ob N k 5) (d : decode cc pc = .ok (.putfield 135, 3)) (kk : G E N nL p l e R s m args below meth c cells slots Q (up I k 11 x) F (pc + 3) ls st) : G E N nL p l e R s m args below meth c cells slots Q I F pc ls (.int x :: rf E k :: st) := g_put0 C (q := 5) (CN := RX5) (T := TX5) (nf := 16) (j := 11) rfl inX5 (by decide) lkX5_135 rfl h0.2 h0.1 (by decide) rfl tyX5 tyX5_ok nmX5 (by decide) (v := .int x) (I2 := up I k 11 x) (F2 := F) rfl rfl (fl_up rfl) (fun y hy => ⟨up_ne hy, rfl⟩) d kk
theorem lkX5_138 : Cond.fieldLink RX5 138 "SleepingIslandsModel" "keeperTold" "I" ∈ gw := gw_of 607 (by decide +kernel) (by decide +kernel)
theorem gfX5_138 (C : Cx E RX5 cc nL p s m args meth c) {k : Nat} (h0 : ob N k 5) (d : decode cc pc = .ok (.getfield 138, 3)) (kk : G E N nL p l e R s m args below meth c cells slots Q I F (pc + 3) ls (.int (I k 12) :: st)) : G E N nL p l e R s m args below meth c cells slots Q I F pc ls (rf E k :: st) := g_get0 C (q := 5) (CN := RX5) (T := TX5) (nf := 16) (j := 12) rfl inX5 (by decide) lkX5_138 rfl h0.2 h0.1 (by decide) (v := .int (I k 12)) rfl d kk
theorem pfX5_138 (C : Cx E RX5 cc nL p s m args meth c) {k : Nat} {x : Int32} (h0 : ob N k 5) (d : decode cc pc = .ok (.putfield 138, 3)) (kk : G E N nL p l e R s m args below meth c cells slots Q (up I k 12 x) F (pc + 3) ls st) : G E N nL p l e R s m args below meth c cells slots Q I F pc ls (.int x :: rf E k :: st) := g_put0 C (q := 5) (CN := RX5) (T := TX5) (nf := 16) (j := 12) rfl inX5 (by decide) lkX5_138 rfl h0.2 h0.1 (by decide) rfl tyX5 tyX5_ok nmX5 (by decide) (v := .int x) (I2 := up I k 12 x) (F2 := F) rfl rfl (fl_up rfl) (fun y hy => ⟨up_ne hy, rfl⟩) d kk
theorem lkX5_141 : Cond.fieldLink RX5 141 "SleepingIslandsModel" "riseTold" "I" ∈ gw := gw_of 608 (by decide +kernel) (by decide +kernel)
theorem gfX5_141 (C : Cx E RX5 cc nL p s m args meth c) {k : Nat} (h0 : ob N k 5) (d : decode cc pc = .ok (.getfield 141, 3)) (kk : G E N nL p l e R s m args below meth c cells slots Q I F (pc + 3) ls (.int (I k 13) :: st)) : G E N nL p l e R s m args below meth c cells slots Q I F pc ls (rf E k :: st) := g_get0 C (q := 5) (CN := RX5) (T := TX5) (nf := 16) (j := 13) rfl inX5 (by decide) lkX5_141 rfl h0.2 h0.1 (by decide) (v := .int (I k 13)) rfl d kk
theorem pfX5_141 (C : Cx E RX5 cc nL p s m args meth c) {k : Nat} {x : Int32} (h0 : ob N k 5) (d : decode cc pc = .ok (.putfield 141, 3)) (kk : G E N nL p l e R s m args below meth c cells slots Q (up I k 13 x) F (pc + 3) ls st) : G E N nL p l e R s m args below meth c cells slots Q I F pc ls (.int x :: rf E k :: st) := g_put0 C (q := 5) (CN := RX5) (T := TX5) (nf := 16) (j := 13) rfl inX5 (by decide) lkX5_141 rfl h0.2 h0.1 (by decide) rfl tyX5 tyX5_ok nmX5 (by decide) (v := .int x) (I2 := up I k 13 x) (F2 := F) rfl rfl (fl_up rfl) (fun y hy => ⟨up_ne hy, rfl⟩) d kk
theorem lkX5_144 : Cond.fieldLink RX5 144 "SleepingIslandsModel" "loadTold" "I" ∈ gw := gw_of 609 (by decide +kernel) (by decide +kernel)
theorem gfX5_144 (C : Cx E RX5 cc nL p s m args meth c) {k : Nat} (h0 : ob N k 5) (d : decode cc pc = .ok (.getfield 144, 3)) (kk : G E N nL p l e R s m args below meth c cells slots Q I F (pc + 3) ls (.int (I k 14) :: st)) : G E N nL p l e R s m args below meth c cells slots Q I F pc ls (rf E k :: st) := g_get0 C (q := 5) (CN := RX5) (T := TX5) (nf := 16) (j := 14) rfl inX5 (by decide) lkX5_144 rfl h0.2 h0.1 (by decide) (v := .int (I k 14)) rfl d kk
theorem pfX5_144 (C : Cx E RX5 cc nL p s m args meth c) {k : Nat} {x : Int32} (h0 : ob N k 5) (d : decode cc pc = .ok (.putfield 144, 3)) (kk : G E N nL p l e R s m args below meth c cells slots Q (up I k 14 x) F (pc + 3) ls st) : G E N nL p l e R s m args below meth c cells slots Q I F pc ls (.int x :: rf E k :: st) := g_put0 C (q := 5) (CN := RX5) (T := TX5) (nf := 16) (j := 14) rfl inX5 (by decide) lkX5_144 rfl h0.2 h0.1 (by decide) rfl tyX5 tyX5_ok nmX5 (by decide) (v := .int x) (I2 := up I k 14 x) (F2 := F) rfl rfl (fl_up rfl) (fun y hy => ⟨up_ne hy, rfl⟩) d kk
theorem lmX4_9 : Cond.methodLinkNest RX4 9 yX0_init "SleepingIslands" ∈ nw := nw_of 101 (by decide +kernel) (by decide +kernel)
theorem kX4_9 (C : Cx E RX4 cc nL p s m args meth c)  {k : Nat} (h0 : ob N k 0) (hM : CtF l E mX0_init [rf E k] N I F (N + 10) none I2 F2) (hfit : Fits mX0_init R cells slots) (hcat : (st.map fun v => v.category).sum ≤ 8) (d : decode cc pc = .ok (.invokespecial 9, 3)) (kk : G E (N + 10) nL p l e R s m args below meth c (cells + 10) (slots + 80) Q I2 F2 (pc + 3) ls st) : G E N nL p l e R s m args below meth c cells slots Q I F pc ls (rf E k :: st) := g_callIN C (M := mX0_init) (As := []) (rest := st) (N2 := (N + 10)) hM lmX4_9 vX0_init rfl rfl viX0_init hfit rfl rfl rfl hcat (Or.inl (Nat.lt_of_le_of_lt (Nat.zero_le _) h0.2)) d (fun r9 I9 F9 h9 => by obtain ⟨rfl, rfl, rfl⟩ := h9; exact kk)
theorem lmX4_21 : Cond.methodLinkNest RX4 21 yX3_init "SleepingIslands" ∈ nw := nw_of 188 (by decide +kernel) (by decide +kernel)
theorem kX4_21 (C : Cx E RX4 cc nL p s m args meth c)  {k : Nat} (h0 : ob N k 3) (hM : CtF l E mX3_init [rf E k] N I F (N + 1) none I2 F2) (hfit : Fits mX3_init R cells slots) (hcat : (st.map fun v => v.category).sum ≤ 8) (d : decode cc pc = .ok (.invokespecial 21, 3)) (kk : G E (N + 1) nL p l e R s m args below meth c (cells + 1) (slots + 64) Q I2 F2 (pc + 3) ls st) : G E N nL p l e R s m args below meth c cells slots Q I F pc ls (rf E k :: st) := g_callIN C (M := mX3_init) (As := []) (rest := st) (N2 := (N + 1)) hM lmX4_21 vX3_init rfl rfl viX3_init hfit rfl rfl rfl hcat (Or.inl (Nat.lt_of_le_of_lt (Nat.zero_le _) h0.2)) d (fun r9 I9 F9 h9 => by obtain ⟨rfl, rfl, rfl⟩ := h9; exact kk)
theorem lmX4_28 : Cond.methodLinkNest RX4 28 yX1_init "SleepingIslands" ∈ nw := nw_of 205 (by decide +kernel) (by decide +kernel)
theorem kX4_28 (C : Cx E RX4 cc nL p s m args meth c)  {k : Nat} (h0 : ob N k 1) (hM : CtF l E mX1_init [rf E k] N I F (N + 11) none I2 F2) (hfit : Fits mX1_init R cells slots) (hcat : (st.map fun v => v.category).sum ≤ 8) (d : decode cc pc = .ok (.invokespecial 28, 3)) (kk : G E (N + 11) nL p l e R s m args below meth c (cells + 11) (slots + 99) Q I2 F2 (pc + 3) ls st) : G E N nL p l e R s m args below meth c cells slots Q I F pc ls (rf E k :: st) := g_callIN C (M := mX1_init) (As := []) (rest := st) (N2 := (N + 11)) hM lmX4_28 vX1_init rfl rfl viX1_init hfit rfl rfl rfl hcat (Or.inl (Nat.lt_of_le_of_lt (Nat.zero_le _) h0.2)) d (fun r9 I9 F9 h9 => by obtain ⟨rfl, rfl, rfl⟩ := h9; exact kk)
theorem lmX4_35 : Cond.methodLinkNest RX4 35 yX2_init "SleepingIslands" ∈ nw := nw_of 240 (by decide +kernel) (by decide +kernel)
theorem kX4_35 (C : Cx E RX4 cc nL p s m args meth c)  {k : Nat} (h0 : ob N k 2) (hM : CtF l E mX2_init [rf E k] N I F (N + 67) none I2 F2) (hfit : Fits mX2_init R cells slots) (hcat : (st.map fun v => v.category).sum ≤ 8) (d : decode cc pc = .ok (.invokespecial 35, 3)) (kk : G E (N + 67) nL p l e R s m args below meth c (cells + 67) (slots + 600) Q I2 F2 (pc + 3) ls st) : G E N nL p l e R s m args below meth c cells slots Q I F pc ls (rf E k :: st) := g_callIN C (M := mX2_init) (As := []) (rest := st) (N2 := (N + 67)) hM lmX4_35 vX2_init rfl rfl viX2_init hfit rfl rfl rfl hcat (Or.inl (Nat.lt_of_le_of_lt (Nat.zero_le _) h0.2)) d (fun r9 I9 F9 h9 => by obtain ⟨rfl, rfl, rfl⟩ := h9; exact kk)
theorem lmX4_50 : Cond.methodLink RX4 50 yX4_setCurrent ∈ gw := gw_of 284 (by decide +kernel) (by decide +kernel)
theorem kX4_50 (C : Cx E RX4 cc nL p s m args meth c) {a0 : Int32} {v : Value} {k : Nat} (h0 : ob N k 4) (hM : CtF l E mX4_setCurrent [rf E k, .int a0] N I F N (some v) I2 F2) (hfit : Fits mX4_setCurrent R cells slots) (hcat : (st.map fun v => v.category).sum ≤ 8) (d : decode cc pc = .ok (.invokevirtual 50, 3)) (kk : G E N nL p l e R s m args below meth c cells slots Q I2 F2 (pc + 3) ls (v :: st)) : G E N nL p l e R s m args below meth c cells slots Q I F pc ls (.int a0 :: rf E k :: st) := g_callV C (M := mX4_setCurrent) (As := [.int a0]) (rest := st) (N2 := N) hM lmX4_50 vX4_setCurrent (q := 4) (CN := RX4) (T := TX4) (nf := 8) rfl (by decide) rfl h0 viX4_setCurrent vsX4_setCurrent hfit rfl rfl rfl hcat (Or.inl (Nat.lt_of_le_of_lt (Nat.zero_le _) h0.2)) d (fun r9 I9 F9 h9 => by obtain ⟨rfl, rfl, rfl⟩ := h9; exact kk)
theorem lmX4_54 : Cond.methodLink RX4 54 yX4_setAsking ∈ gw := gw_of 307 (by decide +kernel) (by decide +kernel)
theorem kX4_54 (C : Cx E RX4 cc nL p s m args meth c) {a0 : Int32} {v : Value} {k : Nat} (h0 : ob N k 4) (hM : CtF l E mX4_setAsking [rf E k, .int a0] N I F N (some v) I2 F2) (hfit : Fits mX4_setAsking R cells slots) (hcat : (st.map fun v => v.category).sum ≤ 8) (d : decode cc pc = .ok (.invokevirtual 54, 3)) (kk : G E N nL p l e R s m args below meth c cells slots Q I2 F2 (pc + 3) ls (v :: st)) : G E N nL p l e R s m args below meth c cells slots Q I F pc ls (.int a0 :: rf E k :: st) := g_callV C (M := mX4_setAsking) (As := [.int a0]) (rest := st) (N2 := N) hM lmX4_54 vX4_setAsking (q := 4) (CN := RX4) (T := TX4) (nf := 8) rfl (by decide) rfl h0 viX4_setAsking vsX4_setAsking hfit rfl rfl rfl hcat (Or.inl (Nat.lt_of_le_of_lt (Nat.zero_le _) h0.2)) d (fun r9 I9 F9 h9 => by obtain ⟨rfl, rfl, rfl⟩ := h9; exact kk)
theorem lmX4_57 : Cond.methodLink RX4 57 yX4_isWithin ∈ gw := gw_of 288 (by decide +kernel) (by decide +kernel)
theorem kX4_57 (C : Cx E RX4 cc nL p s m args meth c) {a0 : Int32} {a1 : Int32} {a2 : Int32} {v : Value} (h0 : 0 < N) (hM : CtF l E mX4_isWithin [.int a0, .int a1, .int a2] N I F N (some v) I2 F2) (hfit : Fits mX4_isWithin R cells slots) (hcat : (st.map fun v => v.category).sum ≤ 8) (d : decode cc pc = .ok (.invokestatic 57, 3)) (kk : G E N nL p l e R s m args below meth c cells slots Q I2 F2 (pc + 3) ls (v :: st)) : G E N nL p l e R s m args below meth c cells slots Q I F pc ls (.int a2 :: .int a1 :: .int a0 :: st) := g_callS C (M := mX4_isWithin) (As := [.int a0, .int a1, .int a2]) (rest := st) (N2 := N) hM lmX4_57 vX4_isWithin vtX4_isWithin hfit rfl rfl rfl hcat (Or.inl h0) d (fun r9 I9 F9 h9 => by obtain ⟨rfl, rfl, rfl⟩ := h9; exact kk)
theorem lmX4_61 : Cond.methodLinkNest RX4 61 yX2_record "SleepingIslands" ∈ nw := nw_of 291 (by decide +kernel) (by decide +kernel)
theorem kX4_61 (C : Cx E RX4 cc nL p s m args meth c) {a0 : Nat} {k : Nat} (h0 : ob N k 2) (hM : CtF l E mX2_record [rf E k, rf E a0] N I F N none I2 F2) (hfit : Fits mX2_record R cells slots) (hcat : (st.map fun v => v.category).sum ≤ 8) (d : decode cc pc = .ok (.invokevirtual 61, 3)) (kk : G E N nL p l e R s m args below meth c cells slots Q I2 F2 (pc + 3) ls st) : G E N nL p l e R s m args below meth c cells slots Q I F pc ls (rf E a0 :: rf E k :: st) := g_callVN C (M := mX2_record) (As := [rf E a0]) (rest := st) (N2 := N) hM lmX4_61 vX2_record (q := 2) (CN := RX2) (T := TX2) (nf := 2) rfl (by decide) rfl h0 viX2_record vsX2_record hfit rfl rfl rfl hcat (Or.inl (Nat.lt_of_le_of_lt (Nat.zero_le _) h0.2)) d (fun r9 I9 F9 h9 => by obtain ⟨rfl, rfl, rfl⟩ := h9; exact kk)
theorem lmX4_74 : Cond.methodLinkNest RX4 74 yX0_addIsland "SleepingIslands" ∈ nw := nw_of 315 (by decide +kernel) (by decide +kernel)
theorem kX4_74 (C : Cx E RX4 cc nL p s m args meth c) {a0 : Int32} {a1 : Int32} {a2 : Int32} {a3 : Int32} {a4 : Int32} {k : Nat} (h0 : ob N k 0) (hM : CtF l E mX0_addIsland [rf E k, .int a0, .int a1, .int a2, .int a3, .int a4] N I F N none I2 F2) (hfit : Fits mX0_addIsland R cells slots) (hcat : (st.map fun v => v.category).sum ≤ 8) (d : decode cc pc = .ok (.invokevirtual 74, 3)) (kk : G E N nL p l e R s m args below meth c cells slots Q I2 F2 (pc + 3) ls st) : G E N nL p l e R s m args below meth c cells slots Q I F pc ls (.int a4 :: .int a3 :: .int a2 :: .int a1 :: .int a0 :: rf E k :: st) := g_callVN C (M := mX0_addIsland) (As := [.int a0, .int a1, .int a2, .int a3, .int a4]) (rest := st) (N2 := N) hM lmX4_74 vX0_addIsland (q := 0) (CN := RX0) (T := TX0) (nf := 19) rfl (by decide) rfl h0 viX0_addIsland vsX0_addIsland hfit rfl rfl rfl hcat (Or.inl (Nat.lt_of_le_of_lt (Nat.zero_le _) h0.2)) d (fun r9 I9 F9 h9 => by obtain ⟨rfl, rfl, rfl⟩ := h9; exact kk)
theorem lmX4_78 : Cond.methodLinkNest RX4 78 yX1_findFault "SleepingIslands" ∈ nw := nw_of 326 (by decide +kernel) (by decide +kernel)
theorem kX4_78 (C : Cx E RX4 cc nL p s m args meth c) {a0 : Nat} {v : Value} {k : Nat} (h0 : ob N k 1) (hM : CtF l E mX1_findFault [rf E k, rf E a0] N I F N (some v) I2 F2) (hfit : Fits mX1_findFault R cells slots) (hcat : (st.map fun v => v.category).sum ≤ 8) (d : decode cc pc = .ok (.invokevirtual 78, 3)) (kk : G E N nL p l e R s m args below meth c cells slots Q I2 F2 (pc + 3) ls (v :: st)) : G E N nL p l e R s m args below meth c cells slots Q I F pc ls (rf E a0 :: rf E k :: st) := g_callVN C (M := mX1_findFault) (As := [rf E a0]) (rest := st) (N2 := N) hM lmX4_78 vX1_findFault (q := 1) (CN := RX1) (T := TX1) (nf := 7) rfl (by decide) rfl h0 viX1_findFault vsX1_findFault hfit rfl rfl rfl hcat (Or.inl (Nat.lt_of_le_of_lt (Nat.zero_le _) h0.2)) d (fun r9 I9 F9 h9 => by obtain ⟨rfl, rfl, rfl⟩ := h9; exact kk)
theorem lmX4_83 : Cond.methodLinkNest RX4 83 yX0_hasAllThatAreRead "SleepingIslands" ∈ nw := nw_of 373 (by decide +kernel) (by decide +kernel)
theorem kX4_83 (C : Cx E RX4 cc nL p s m args meth c)  {v : Value} {k : Nat} (h0 : ob N k 0) (hM : CtF l E mX0_hasAllThatAreRead [rf E k] N I F N (some v) I2 F2) (hfit : Fits mX0_hasAllThatAreRead R cells slots) (hcat : (st.map fun v => v.category).sum ≤ 8) (d : decode cc pc = .ok (.invokevirtual 83, 3)) (kk : G E N nL p l e R s m args below meth c cells slots Q I2 F2 (pc + 3) ls (v :: st)) : G E N nL p l e R s m args below meth c cells slots Q I F pc ls (rf E k :: st) := g_callVN C (M := mX0_hasAllThatAreRead) (As := []) (rest := st) (N2 := N) hM lmX4_83 vX0_hasAllThatAreRead (q := 0) (CN := RX0) (T := TX0) (nf := 19) rfl (by decide) rfl h0 viX0_hasAllThatAreRead vsX0_hasAllThatAreRead hfit rfl rfl rfl hcat (Or.inl (Nat.lt_of_le_of_lt (Nat.zero_le _) h0.2)) d (fun r9 I9 F9 h9 => by obtain ⟨rfl, rfl, rfl⟩ := h9; exact kk)
theorem lmX4_87 : Cond.methodLinkNest RX4 87 yX0_copyFrom "SleepingIslands" ∈ nw := nw_of 377 (by decide +kernel) (by decide +kernel)
theorem kX4_87 (C : Cx E RX4 cc nL p s m args meth c) {a0 : Nat} {k : Nat} (h0 : ob N k 0) (hM : CtF l E mX0_copyFrom [rf E k, rf E a0] N I F N none I2 F2) (hfit : Fits mX0_copyFrom R cells slots) (hcat : (st.map fun v => v.category).sum ≤ 8) (d : decode cc pc = .ok (.invokevirtual 87, 3)) (kk : G E N nL p l e R s m args below meth c cells slots Q I2 F2 (pc + 3) ls st) : G E N nL p l e R s m args below meth c cells slots Q I F pc ls (rf E a0 :: rf E k :: st) := g_callVN C (M := mX0_copyFrom) (As := [rf E a0]) (rest := st) (N2 := N) hM lmX4_87 vX0_copyFrom (q := 0) (CN := RX0) (T := TX0) (nf := 19) rfl (by decide) rfl h0 viX0_copyFrom vsX0_copyFrom hfit rfl rfl rfl hcat (Or.inl (Nat.lt_of_le_of_lt (Nat.zero_le _) h0.2)) d (fun r9 I9 F9 h9 => by obtain ⟨rfl, rfl, rfl⟩ := h9; exact kk)
theorem lmX4_93 : Cond.methodLinkNest RX4 93 yX0_has "SleepingIslands" ∈ nw := nw_of 382 (by decide +kernel) (by decide +kernel)
theorem kX4_93 (C : Cx E RX4 cc nL p s m args meth c) {a0 : Int32} {v : Value} {k : Nat} (h0 : ob N k 0) (hM : CtF l E mX0_has [rf E k, .int a0] N I F N (some v) I2 F2) (hfit : Fits mX0_has R cells slots) (hcat : (st.map fun v => v.category).sum ≤ 8) (d : decode cc pc = .ok (.invokevirtual 93, 3)) (kk : G E N nL p l e R s m args below meth c cells slots Q I2 F2 (pc + 3) ls (v :: st)) : G E N nL p l e R s m args below meth c cells slots Q I F pc ls (.int a0 :: rf E k :: st) := g_callVN C (M := mX0_has) (As := [.int a0]) (rest := st) (N2 := N) hM lmX4_93 vX0_has (q := 0) (CN := RX0) (T := TX0) (nf := 19) rfl (by decide) rfl h0 viX0_has vsX0_has hfit rfl rfl rfl hcat (Or.inl (Nat.lt_of_le_of_lt (Nat.zero_le _) h0.2)) d (fun r9 I9 F9 h9 => by obtain ⟨rfl, rfl, rfl⟩ := h9; exact kk)
theorem lmX4_101 : Cond.methodLink RX4 101 yX4_isIn ∈ gw := gw_of 386 (by decide +kernel) (by decide +kernel)
theorem kX4_101 (C : Cx E RX4 cc nL p s m args meth c) {a0 : Int32} {a1 : Int32} {v : Value} (h0 : 0 < N) (hM : CtF l E mX4_isIn [.int a0, .int a1] N I F N (some v) I2 F2) (hfit : Fits mX4_isIn R cells slots) (hcat : (st.map fun v => v.category).sum ≤ 8) (d : decode cc pc = .ok (.invokestatic 101, 3)) (kk : G E N nL p l e R s m args below meth c cells slots Q I2 F2 (pc + 3) ls (v :: st)) : G E N nL p l e R s m args below meth c cells slots Q I F pc ls (.int a1 :: .int a0 :: st) := g_callS C (M := mX4_isIn) (As := [.int a0, .int a1]) (rest := st) (N2 := N) hM lmX4_101 vX4_isIn vtX4_isIn hfit rfl rfl rfl hcat (Or.inl h0) d (fun r9 I9 F9 h9 => by obtain ⟨rfl, rfl, rfl⟩ := h9; exact kk)
theorem lmX4_111 : Cond.methodLinkNest RX4 111 yX0_readersOf "SleepingIslands" ∈ nw := nw_of 397 (by decide +kernel) (by decide +kernel)
theorem kX4_111 (C : Cx E RX4 cc nL p s m args meth c) {a0 : Int32} {v : Value} {k : Nat} (h0 : ob N k 0) (hM : CtF l E mX0_readersOf [rf E k, .int a0] N I F N (some v) I2 F2) (hfit : Fits mX0_readersOf R cells slots) (hcat : (st.map fun v => v.category).sum ≤ 8) (d : decode cc pc = .ok (.invokevirtual 111, 3)) (kk : G E N nL p l e R s m args below meth c cells slots Q I2 F2 (pc + 3) ls (v :: st)) : G E N nL p l e R s m args below meth c cells slots Q I F pc ls (.int a0 :: rf E k :: st) := g_callVN C (M := mX0_readersOf) (As := [.int a0]) (rest := st) (N2 := N) hM lmX4_111 vX0_readersOf (q := 0) (CN := RX0) (T := TX0) (nf := 19) rfl (by decide) rfl h0 viX0_readersOf vsX0_readersOf hfit rfl rfl rfl hcat (Or.inl (Nat.lt_of_le_of_lt (Nat.zero_le _) h0.2)) d (fun r9 I9 F9 h9 => by obtain ⟨rfl, rfl, rfl⟩ := h9; exact kk)
theorem lmX4_114 : Cond.methodLinkNest RX4 114 yX0_islandsThatAre "SleepingIslands" ∈ nw := nw_of 402 (by decide +kernel) (by decide +kernel)
theorem kX4_114 (C : Cx E RX4 cc nL p s m args meth c) {a0 : Int32} {v : Value} {k : Nat} (h0 : ob N k 0) (hM : CtF l E mX0_islandsThatAre [rf E k, .int a0] N I F N (some v) I2 F2) (hfit : Fits mX0_islandsThatAre R cells slots) (hcat : (st.map fun v => v.category).sum ≤ 8) (d : decode cc pc = .ok (.invokevirtual 114, 3)) (kk : G E N nL p l e R s m args below meth c cells slots Q I2 F2 (pc + 3) ls (v :: st)) : G E N nL p l e R s m args below meth c cells slots Q I F pc ls (.int a0 :: rf E k :: st) := g_callVN C (M := mX0_islandsThatAre) (As := [.int a0]) (rest := st) (N2 := N) hM lmX4_114 vX0_islandsThatAre (q := 0) (CN := RX0) (T := TX0) (nf := 19) rfl (by decide) rfl h0 viX0_islandsThatAre vsX0_islandsThatAre hfit rfl rfl rfl hcat (Or.inl (Nat.lt_of_le_of_lt (Nat.zero_le _) h0.2)) d (fun r9 I9 F9 h9 => by obtain ⟨rfl, rfl, rfl⟩ := h9; exact kk)
theorem lmX4_117 : Cond.methodLink RX4 117 yJ6_bitCount_0f7a4 ∈ gw := gw_of 406 (by decide +kernel) (by decide +kernel)
theorem kX4_117 (C : Cx E RX4 cc nL p s m args meth c) {a0 : Int32} {v : Value} (h0 : 0 < N) (hM : CtF l E mJ6_bitCount_0f7a4 [.int a0] N I F N (some v) I2 F2) (hfit : Fits mJ6_bitCount_0f7a4 R cells slots) (hcat : (st.map fun v => v.category).sum ≤ 8) (d : decode cc pc = .ok (.invokestatic 117, 3)) (kk : G E N nL p l e R s m args below meth c cells slots Q I2 F2 (pc + 3) ls (v :: st)) : G E N nL p l e R s m args below meth c cells slots Q I F pc ls (.int a0 :: st) := g_callS C (M := mJ6_bitCount_0f7a4) (As := [.int a0]) (rest := st) (N2 := N) hM lmX4_117 vJ6_bitCount_0f7a4 vtJ6_bitCount_0f7a4 hfit rfl rfl rfl hcat (Or.inl h0) d (fun r9 I9 F9 h9 => by obtain ⟨rfl, rfl, rfl⟩ := h9; exact kk)
theorem lmX4_122 : Cond.methodLinkNest RX4 122 yX0_orderToWake "SleepingIslands" ∈ nw := nw_of 416 (by decide +kernel) (by decide +kernel)
theorem kX4_122 (C : Cx E RX4 cc nL p s m args meth c) {a0 : Int32} {k : Nat} (h0 : ob N k 0) (hM : CtF l E mX0_orderToWake [rf E k, .int a0] N I F N none I2 F2) (hfit : Fits mX0_orderToWake R cells slots) (hcat : (st.map fun v => v.category).sum ≤ 8) (d : decode cc pc = .ok (.invokevirtual 122, 3)) (kk : G E N nL p l e R s m args below meth c cells slots Q I2 F2 (pc + 3) ls st) : G E N nL p l e R s m args below meth c cells slots Q I F pc ls (.int a0 :: rf E k :: st) := g_callVN C (M := mX0_orderToWake) (As := [.int a0]) (rest := st) (N2 := N) hM lmX4_122 vX0_orderToWake (q := 0) (CN := RX0) (T := TX0) (nf := 19) rfl (by decide) rfl h0 viX0_orderToWake vsX0_orderToWake hfit rfl rfl rfl hcat (Or.inl (Nat.lt_of_le_of_lt (Nat.zero_le _) h0.2)) d (fun r9 I9 F9 h9 => by obtain ⟨rfl, rfl, rfl⟩ := h9; exact kk)
theorem lmX4_129 : Cond.methodLinkNest RX4 129 yX0_noiseSoFar "SleepingIslands" ∈ nw := nw_of 424 (by decide +kernel) (by decide +kernel)
theorem kX4_129 (C : Cx E RX4 cc nL p s m args meth c)  {v : Value} {k : Nat} (h0 : ob N k 0) (hM : CtF l E mX0_noiseSoFar [rf E k] N I F N (some v) I2 F2) (hfit : Fits mX0_noiseSoFar R cells slots) (hcat : (st.map fun v => v.category).sum ≤ 8) (d : decode cc pc = .ok (.invokevirtual 129, 3)) (kk : G E N nL p l e R s m args below meth c cells slots Q I2 F2 (pc + 3) ls (v :: st)) : G E N nL p l e R s m args below meth c cells slots Q I F pc ls (rf E k :: st) := g_callVN C (M := mX0_noiseSoFar) (As := []) (rest := st) (N2 := N) hM lmX4_129 vX0_noiseSoFar (q := 0) (CN := RX0) (T := TX0) (nf := 19) rfl (by decide) rfl h0 viX0_noiseSoFar vsX0_noiseSoFar hfit rfl rfl rfl hcat (Or.inl (Nat.lt_of_le_of_lt (Nat.zero_le _) h0.2)) d (fun r9 I9 F9 h9 => by obtain ⟨rfl, rfl, rfl⟩ := h9; exact kk)
theorem lmX4_133 : Cond.methodLinkNest RX4 133 yX0_letPass "SleepingIslands" ∈ nw := nw_of 428 (by decide +kernel) (by decide +kernel)
theorem kX4_133 (C : Cx E RX4 cc nL p s m args meth c) {a0 : Int32} {k : Nat} (h0 : ob N k 0) (hM : CtF l E mX0_letPass [rf E k, .int a0] N I F N none I2 F2) (hfit : Fits mX0_letPass R cells slots) (hcat : (st.map fun v => v.category).sum ≤ 8) (d : decode cc pc = .ok (.invokevirtual 133, 3)) (kk : G E N nL p l e R s m args below meth c cells slots Q I2 F2 (pc + 3) ls st) : G E N nL p l e R s m args below meth c cells slots Q I F pc ls (.int a0 :: rf E k :: st) := g_callVN C (M := mX0_letPass) (As := [.int a0]) (rest := st) (N2 := N) hM lmX4_133 vX0_letPass (q := 0) (CN := RX0) (T := TX0) (nf := 19) rfl (by decide) rfl h0 viX0_letPass vsX0_letPass hfit rfl rfl rfl hcat (Or.inl (Nat.lt_of_le_of_lt (Nat.zero_le _) h0.2)) d (fun r9 I9 F9 h9 => by obtain ⟨rfl, rfl, rfl⟩ := h9; exact kk)
theorem lmX4_151 : Cond.methodLinkNest RX4 151 yX0_whatTells "SleepingIslands" ∈ nw := nw_of 489 (by decide +kernel) (by decide +kernel)
theorem kX4_151 (C : Cx E RX4 cc nL p s m args meth c) {a0 : Int32} {v : Value} {k : Nat} (h0 : ob N k 0) (hM : CtF l E mX0_whatTells [rf E k, .int a0] N I F N (some v) I2 F2) (hfit : Fits mX0_whatTells R cells slots) (hcat : (st.map fun v => v.category).sum ≤ 8) (d : decode cc pc = .ok (.invokevirtual 151, 3)) (kk : G E N nL p l e R s m args below meth c cells slots Q I2 F2 (pc + 3) ls (v :: st)) : G E N nL p l e R s m args below meth c cells slots Q I F pc ls (.int a0 :: rf E k :: st) := g_callVN C (M := mX0_whatTells) (As := [.int a0]) (rest := st) (N2 := N) hM lmX4_151 vX0_whatTells (q := 0) (CN := RX0) (T := TX0) (nf := 19) rfl (by decide) rfl h0 viX0_whatTells vsX0_whatTells hfit rfl rfl rfl hcat (Or.inl (Nat.lt_of_le_of_lt (Nat.zero_le _) h0.2)) d (fun r9 I9 F9 h9 => by obtain ⟨rfl, rfl, rfl⟩ := h9; exact kk)
theorem lmX4_157 : Cond.methodLinkNest RX4 157 yX0_placeInQueue "SleepingIslands" ∈ nw := nw_of 490 (by decide +kernel) (by decide +kernel)
theorem kX4_157 (C : Cx E RX4 cc nL p s m args meth c) {a0 : Int32} {v : Value} {k : Nat} (h0 : ob N k 0) (hM : CtF l E mX0_placeInQueue [rf E k, .int a0] N I F N (some v) I2 F2) (hfit : Fits mX0_placeInQueue R cells slots) (hcat : (st.map fun v => v.category).sum ≤ 8) (d : decode cc pc = .ok (.invokevirtual 157, 3)) (kk : G E N nL p l e R s m args below meth c cells slots Q I2 F2 (pc + 3) ls (v :: st)) : G E N nL p l e R s m args below meth c cells slots Q I F pc ls (.int a0 :: rf E k :: st) := g_callVN C (M := mX0_placeInQueue) (As := [.int a0]) (rest := st) (N2 := N) hM lmX4_157 vX0_placeInQueue (q := 0) (CN := RX0) (T := TX0) (nf := 19) rfl (by decide) rfl h0 viX0_placeInQueue vsX0_placeInQueue hfit rfl rfl rfl hcat (Or.inl (Nat.lt_of_le_of_lt (Nat.zero_le _) h0.2)) d (fun r9 I9 F9 h9 => by obtain ⟨rfl, rfl, rfl⟩ := h9; exact kk)
theorem lmX4_163 : Cond.methodLinkNest RX4 163 yX0_risingLoad "SleepingIslands" ∈ nw := nw_of 498 (by decide +kernel) (by decide +kernel)
theorem kX4_163 (C : Cx E RX4 cc nL p s m args meth c)  {v : Value} {k : Nat} (h0 : ob N k 0) (hM : CtF l E mX0_risingLoad [rf E k] N I F N (some v) I2 F2) (hfit : Fits mX0_risingLoad R cells slots) (hcat : (st.map fun v => v.category).sum ≤ 8) (d : decode cc pc = .ok (.invokevirtual 163, 3)) (kk : G E N nL p l e R s m args below meth c cells slots Q I2 F2 (pc + 3) ls (v :: st)) : G E N nL p l e R s m args below meth c cells slots Q I F pc ls (rf E k :: st) := g_callVN C (M := mX0_risingLoad) (As := []) (rest := st) (N2 := N) hM lmX4_163 vX0_risingLoad (q := 0) (CN := RX0) (T := TX0) (nf := 19) rfl (by decide) rfl h0 viX0_risingLoad vsX0_risingLoad hfit rfl rfl rfl hcat (Or.inl (Nat.lt_of_le_of_lt (Nat.zero_le _) h0.2)) d (fun r9 I9 F9 h9 => by obtain ⟨rfl, rfl, rfl⟩ := h9; exact kk)
theorem lmX4_178 : Cond.methodLinkNest RX4 178 yX0_islandInQueue "SleepingIslands" ∈ nw := nw_of 503 (by decide +kernel) (by decide +kernel)
theorem kX4_178 (C : Cx E RX4 cc nL p s m args meth c) {a0 : Int32} {v : Value} {k : Nat} (h0 : ob N k 0) (hM : CtF l E mX0_islandInQueue [rf E k, .int a0] N I F N (some v) I2 F2) (hfit : Fits mX0_islandInQueue R cells slots) (hcat : (st.map fun v => v.category).sum ≤ 8) (d : decode cc pc = .ok (.invokevirtual 178, 3)) (kk : G E N nL p l e R s m args below meth c cells slots Q I2 F2 (pc + 3) ls (v :: st)) : G E N nL p l e R s m args below meth c cells slots Q I F pc ls (.int a0 :: rf E k :: st) := g_callVN C (M := mX0_islandInQueue) (As := [.int a0]) (rest := st) (N2 := N) hM lmX4_178 vX0_islandInQueue (q := 0) (CN := RX0) (T := TX0) (nf := 19) rfl (by decide) rfl h0 viX0_islandInQueue vsX0_islandInQueue hfit rfl rfl rfl hcat (Or.inl (Nat.lt_of_le_of_lt (Nat.zero_le _) h0.2)) d (fun r9 I9 F9 h9 => by obtain ⟨rfl, rfl, rfl⟩ := h9; exact kk)
theorem lmX4_181 : Cond.methodLinkNest RX4 181 yX0_sumOfValues "SleepingIslands" ∈ nw := nw_of 511 (by decide +kernel) (by decide +kernel)
theorem kX4_181 (C : Cx E RX4 cc nL p s m args meth c)  {v : Value} {k : Nat} (h0 : ob N k 0) (hM : CtF l E mX0_sumOfValues [rf E k] N I F N (some v) I2 F2) (hfit : Fits mX0_sumOfValues R cells slots) (hcat : (st.map fun v => v.category).sum ≤ 8) (d : decode cc pc = .ok (.invokevirtual 181, 3)) (kk : G E N nL p l e R s m args below meth c cells slots Q I2 F2 (pc + 3) ls (v :: st)) : G E N nL p l e R s m args below meth c cells slots Q I F pc ls (rf E k :: st) := g_callVN C (M := mX0_sumOfValues) (As := []) (rest := st) (N2 := N) hM lmX4_181 vX0_sumOfValues (q := 0) (CN := RX0) (T := TX0) (nf := 19) rfl (by decide) rfl h0 viX0_sumOfValues vsX0_sumOfValues hfit rfl rfl rfl hcat (Or.inl (Nat.lt_of_le_of_lt (Nat.zero_le _) h0.2)) d (fun r9 I9 F9 h9 => by obtain ⟨rfl, rfl, rfl⟩ := h9; exact kk)
theorem lmX4_184 : Cond.methodLink RX4 184 yX4_ticksUntilAllAwake ∈ gw := gw_of 519 (by decide +kernel) (by decide +kernel)
theorem kX4_184 (C : Cx E RX4 cc nL p s m args meth c) {a0 : Int32} {a1 : Int32} {v : Value} {k : Nat} (h0 : ob N k 4) (hM : CtF l E mX4_ticksUntilAllAwake [rf E k, .int a0, .int a1] N I F N (some v) I2 F2) (hfit : Fits mX4_ticksUntilAllAwake R cells slots) (hcat : (st.map fun v => v.category).sum ≤ 8) (d : decode cc pc = .ok (.invokevirtual 184, 3)) (kk : G E N nL p l e R s m args below meth c cells slots Q I2 F2 (pc + 3) ls (v :: st)) : G E N nL p l e R s m args below meth c cells slots Q I F pc ls (.int a1 :: .int a0 :: rf E k :: st) := g_callV C (M := mX4_ticksUntilAllAwake) (As := [.int a0, .int a1]) (rest := st) (N2 := N) hM lmX4_184 vX4_ticksUntilAllAwake (q := 4) (CN := RX4) (T := TX4) (nf := 8) rfl (by decide) rfl h0 viX4_ticksUntilAllAwake vsX4_ticksUntilAllAwake hfit rfl rfl rfl hcat (Or.inl (Nat.lt_of_le_of_lt (Nat.zero_le _) h0.2)) d (fun r9 I9 F9 h9 => by obtain ⟨rfl, rfl, rfl⟩ := h9; exact kk)
theorem lmX4_188 : Cond.methodLinkNest RX4 188 yX0_orderSleepersToWake "SleepingIslands" ∈ nw := nw_of 523 (by decide +kernel) (by decide +kernel)
theorem kX4_188 (C : Cx E RX4 cc nL p s m args meth c)  {k : Nat} (h0 : ob N k 0) (hM : CtF l E mX0_orderSleepersToWake [rf E k] N I F N none I2 F2) (hfit : Fits mX0_orderSleepersToWake R cells slots) (hcat : (st.map fun v => v.category).sum ≤ 8) (d : decode cc pc = .ok (.invokevirtual 188, 3)) (kk : G E N nL p l e R s m args below meth c cells slots Q I2 F2 (pc + 3) ls st) : G E N nL p l e R s m args below meth c cells slots Q I F pc ls (rf E k :: st) := g_callVN C (M := mX0_orderSleepersToWake) (As := []) (rest := st) (N2 := N) hM lmX4_188 vX0_orderSleepersToWake (q := 0) (CN := RX0) (T := TX0) (nf := 19) rfl (by decide) rfl h0 viX0_orderSleepersToWake vsX0_orderSleepersToWake hfit rfl rfl rfl hcat (Or.inl (Nat.lt_of_le_of_lt (Nat.zero_le _) h0.2)) d (fun r9 I9 F9 h9 => by obtain ⟨rfl, rfl, rfl⟩ := h9; exact kk)
theorem lmX4_191 : Cond.methodLinkNest RX4 191 yX0_areAllAwake "SleepingIslands" ∈ nw := nw_of 527 (by decide +kernel) (by decide +kernel)
theorem kX4_191 (C : Cx E RX4 cc nL p s m args meth c)  {v : Value} {k : Nat} (h0 : ob N k 0) (hM : CtF l E mX0_areAllAwake [rf E k] N I F N (some v) I2 F2) (hfit : Fits mX0_areAllAwake R cells slots) (hcat : (st.map fun v => v.category).sum ≤ 8) (d : decode cc pc = .ok (.invokevirtual 191, 3)) (kk : G E N nL p l e R s m args below meth c cells slots Q I2 F2 (pc + 3) ls (v :: st)) : G E N nL p l e R s m args below meth c cells slots Q I F pc ls (rf E k :: st) := g_callVN C (M := mX0_areAllAwake) (As := []) (rest := st) (N2 := N) hM lmX4_191 vX0_areAllAwake (q := 0) (CN := RX0) (T := TX0) (nf := 19) rfl (by decide) rfl h0 viX0_areAllAwake vsX0_areAllAwake hfit rfl rfl rfl hcat (Or.inl (Nat.lt_of_le_of_lt (Nat.zero_le _) h0.2)) d (fun r9 I9 F9 h9 => by obtain ⟨rfl, rfl, rfl⟩ := h9; exact kk)
theorem lmX4_194 : Cond.methodLinkNest RX4 194 yX0_isAtRest "SleepingIslands" ∈ nw := nw_of 532 (by decide +kernel) (by decide +kernel)
theorem kX4_194 (C : Cx E RX4 cc nL p s m args meth c)  {v : Value} {k : Nat} (h0 : ob N k 0) (hM : CtF l E mX0_isAtRest [rf E k] N I F N (some v) I2 F2) (hfit : Fits mX0_isAtRest R cells slots) (hcat : (st.map fun v => v.category).sum ≤ 8) (d : decode cc pc = .ok (.invokevirtual 194, 3)) (kk : G E N nL p l e R s m args below meth c cells slots Q I2 F2 (pc + 3) ls (v :: st)) : G E N nL p l e R s m args below meth c cells slots Q I F pc ls (rf E k :: st) := g_callVN C (M := mX0_isAtRest) (As := []) (rest := st) (N2 := N) hM lmX4_194 vX0_isAtRest (q := 0) (CN := RX0) (T := TX0) (nf := 19) rfl (by decide) rfl h0 viX0_isAtRest vsX0_isAtRest hfit rfl rfl rfl hcat (Or.inl (Nat.lt_of_le_of_lt (Nat.zero_le _) h0.2)) d (fun r9 I9 F9 h9 => by obtain ⟨rfl, rfl, rfl⟩ := h9; exact kk)
theorem lmX4_197 : Cond.methodLinkNest RX4 197 yX0_moveOn "SleepingIslands" ∈ nw := nw_of 536 (by decide +kernel) (by decide +kernel)
theorem kX4_197 (C : Cx E RX4 cc nL p s m args meth c)  {k : Nat} (h0 : ob N k 0) (hM : CtF l E mX0_moveOn [rf E k] N I F N none I2 F2) (hfit : Fits mX0_moveOn R cells slots) (hcat : (st.map fun v => v.category).sum ≤ 8) (d : decode cc pc = .ok (.invokevirtual 197, 3)) (kk : G E N nL p l e R s m args below meth c cells slots Q I2 F2 (pc + 3) ls st) : G E N nL p l e R s m args below meth c cells slots Q I F pc ls (rf E k :: st) := g_callVN C (M := mX0_moveOn) (As := []) (rest := st) (N2 := N) hM lmX4_197 vX0_moveOn (q := 0) (CN := RX0) (T := TX0) (nf := 19) rfl (by decide) rfl h0 viX0_moveOn vsX0_moveOn hfit rfl rfl rfl hcat (Or.inl (Nat.lt_of_le_of_lt (Nat.zero_le _) h0.2)) d (fun r9 I9 F9 h9 => by obtain ⟨rfl, rfl, rfl⟩ := h9; exact kk)
theorem lmX4_200 : Cond.methodLink RX4 200 yX4_sleepsQuietly ∈ gw := gw_of 545 (by decide +kernel) (by decide +kernel)
theorem kX4_200 (C : Cx E RX4 cc nL p s m args meth c) {a0 : Int32} {a1 : Int32} {v : Value} {k : Nat} (h0 : ob N k 4) (hM : CtF l E mX4_sleepsQuietly [rf E k, .int a0, .int a1] N I F N (some v) I2 F2) (hfit : Fits mX4_sleepsQuietly R cells slots) (hcat : (st.map fun v => v.category).sum ≤ 8) (d : decode cc pc = .ok (.invokevirtual 200, 3)) (kk : G E N nL p l e R s m args below meth c cells slots Q I2 F2 (pc + 3) ls (v :: st)) : G E N nL p l e R s m args below meth c cells slots Q I F pc ls (.int a1 :: .int a0 :: rf E k :: st) := g_callV C (M := mX4_sleepsQuietly) (As := [.int a0, .int a1]) (rest := st) (N2 := N) hM lmX4_200 vX4_sleepsQuietly (q := 4) (CN := RX4) (T := TX4) (nf := 8) rfl (by decide) rfl h0 viX4_sleepsQuietly vsX4_sleepsQuietly hfit rfl rfl rfl hcat (Or.inl (Nat.lt_of_le_of_lt (Nat.zero_le _) h0.2)) d (fun r9 I9 F9 h9 => by obtain ⟨rfl, rfl, rfl⟩ := h9; exact kk)
theorem lmX4_203 : Cond.methodLink RX4 203 yX4_signsIn ∈ gw := gw_of 553 (by decide +kernel) (by decide +kernel)
theorem kX4_203 (C : Cx E RX4 cc nL p s m args meth c) {a0 : Int64} {v : Value} (h0 : 0 < N) (hM : CtF l E mX4_signsIn [.long a0] N I F N (some v) I2 F2) (hfit : Fits mX4_signsIn R cells slots) (hcat : (st.map fun v => v.category).sum ≤ 8) (d : decode cc pc = .ok (.invokestatic 203, 3)) (kk : G E N nL p l e R s m args below meth c cells slots Q I2 F2 (pc + 3) ls (v :: st)) : G E N nL p l e R s m args below meth c cells slots Q I F pc ls (.long a0 :: st) := g_callS C (M := mX4_signsIn) (As := [.long a0]) (rest := st) (N2 := N) hM lmX4_203 vX4_signsIn vtX4_signsIn hfit rfl rfl rfl hcat (Or.inl h0) d (fun r9 I9 F9 h9 => by obtain ⟨rfl, rfl, rfl⟩ := h9; exact kk)
theorem lmX4_209 : Cond.methodLinkNest RX4 209 yX3_append "SleepingIslands" ∈ nw := nw_of 557 (by decide +kernel) (by decide +kernel)
theorem kX4_209 (C : Cx E RX4 cc nL p s m args meth c) {a0 : Int32} {k : Nat} (h0 : ob N k 3) (hM : CtF l E mX3_append [rf E k, .int a0] N I F N none I2 F2) (hfit : Fits mX3_append R cells slots) (hcat : (st.map fun v => v.category).sum ≤ 8) (d : decode cc pc = .ok (.invokevirtual 209, 3)) (kk : G E N nL p l e R s m args below meth c cells slots Q I2 F2 (pc + 3) ls st) : G E N nL p l e R s m args below meth c cells slots Q I F pc ls (.int a0 :: rf E k :: st) := g_callVN C (M := mX3_append) (As := [.int a0]) (rest := st) (N2 := N) hM lmX4_209 vX3_append (q := 3) (CN := RX3) (T := TX3) (nf := 2) rfl (by decide) rfl h0 viX3_append vsX3_append hfit rfl rfl rfl hcat (Or.inl (Nat.lt_of_le_of_lt (Nat.zero_le _) h0.2)) d (fun r9 I9 F9 h9 => by obtain ⟨rfl, rfl, rfl⟩ := h9; exact kk)
theorem lmX4_213 : Cond.methodLinkNest RX4 213 yX2_takeBack "SleepingIslands" ∈ nw := nw_of 573 (by decide +kernel) (by decide +kernel)
theorem kX4_213 (C : Cx E RX4 cc nL p s m args meth c) {a0 : Nat} {k : Nat} (h0 : ob N k 2) (hM : CtF l E mX2_takeBack [rf E k, rf E a0] N I F N none I2 F2) (hfit : Fits mX2_takeBack R cells slots) (hcat : (st.map fun v => v.category).sum ≤ 8) (d : decode cc pc = .ok (.invokevirtual 213, 3)) (kk : G E N nL p l e R s m args below meth c cells slots Q I2 F2 (pc + 3) ls st) : G E N nL p l e R s m args below meth c cells slots Q I F pc ls (rf E a0 :: rf E k :: st) := g_callVN C (M := mX2_takeBack) (As := [rf E a0]) (rest := st) (N2 := N) hM lmX4_213 vX2_takeBack (q := 2) (CN := RX2) (T := TX2) (nf := 2) rfl (by decide) rfl h0 viX2_takeBack vsX2_takeBack hfit rfl rfl rfl hcat (Or.inl (Nat.lt_of_le_of_lt (Nat.zero_le _) h0.2)) d (fun r9 I9 F9 h9 => by obtain ⟨rfl, rfl, rfl⟩ := h9; exact kk)
theorem lmX4_216 : Cond.methodLink RX4 216 yX4_slotOf ∈ gw := gw_of 581 (by decide +kernel) (by decide +kernel)
theorem kX4_216 (C : Cx E RX4 cc nL p s m args meth c) {a0 : Int32} {v : Value} {k : Nat} (h0 : ob N k 4) (hM : CtF l E mX4_slotOf [rf E k, .int a0] N I F N (some v) I2 F2) (hfit : Fits mX4_slotOf R cells slots) (hcat : (st.map fun v => v.category).sum ≤ 8) (d : decode cc pc = .ok (.invokevirtual 216, 3)) (kk : G E N nL p l e R s m args below meth c cells slots Q I2 F2 (pc + 3) ls (v :: st)) : G E N nL p l e R s m args below meth c cells slots Q I F pc ls (.int a0 :: rf E k :: st) := g_callV C (M := mX4_slotOf) (As := [.int a0]) (rest := st) (N2 := N) hM lmX4_216 vX4_slotOf (q := 4) (CN := RX4) (T := TX4) (nf := 8) rfl (by decide) rfl h0 viX4_slotOf vsX4_slotOf hfit rfl rfl rfl hcat (Or.inl (Nat.lt_of_le_of_lt (Nat.zero_le _) h0.2)) d (fun r9 I9 F9 h9 => by obtain ⟨rfl, rfl, rfl⟩ := h9; exact kk)
theorem lmX0_49 : Cond.methodLink RX0 49 yX0_clear ∈ gw := gw_of 105 (by decide +kernel) (by decide +kernel)
theorem kX0_49 (C : Cx E RX0 cc nL p s m args meth c)  {k : Nat} (h0 : ob N k 0) (hM : CtF l E mX0_clear [rf E k] N I F N none I2 F2) (hfit : Fits mX0_clear R cells slots) (hcat : (st.map fun v => v.category).sum ≤ 8) (d : decode cc pc = .ok (.invokevirtual 49, 3)) (kk : G E N nL p l e R s m args below meth c cells slots Q I2 F2 (pc + 3) ls st) : G E N nL p l e R s m args below meth c cells slots Q I F pc ls (rf E k :: st) := g_callV C (M := mX0_clear) (As := []) (rest := st) (N2 := N) hM lmX0_49 vX0_clear (q := 0) (CN := RX0) (T := TX0) (nf := 19) rfl (by decide) rfl h0 viX0_clear vsX0_clear hfit rfl rfl rfl hcat (Or.inl (Nat.lt_of_le_of_lt (Nat.zero_le _) h0.2)) d (fun r9 I9 F9 h9 => by obtain ⟨rfl, rfl, rfl⟩ := h9; exact kk)
theorem lmX0_73 : Cond.methodLink RX0 73 yX0_isPlace ∈ gw := gw_of 319 (by decide +kernel) (by decide +kernel)
theorem kX0_73 (C : Cx E RX0 cc nL p s m args meth c) {a0 : Int32} {v : Value} (h0 : 0 < N) (hM : CtF l E mX0_isPlace [.int a0] N I F N (some v) I2 F2) (hfit : Fits mX0_isPlace R cells slots) (hcat : (st.map fun v => v.category).sum ≤ 8) (d : decode cc pc = .ok (.invokestatic 73, 3)) (kk : G E N nL p l e R s m args below meth c cells slots Q I2 F2 (pc + 3) ls (v :: st)) : G E N nL p l e R s m args below meth c cells slots Q I F pc ls (.int a0 :: st) := g_callS C (M := mX0_isPlace) (As := [.int a0]) (rest := st) (N2 := N) hM lmX0_73 vX0_isPlace vtX0_isPlace hfit rfl rfl rfl hcat (Or.inl h0) d (fun r9 I9 F9 h9 => by obtain ⟨rfl, rfl, rfl⟩ := h9; exact kk)
theorem lmX0_77 : Cond.methodLinkNest RX0 77 yX4_isIn "SleepingIslands" ∈ nw := nw_of 401 (by decide +kernel) (by decide +kernel)
theorem kX0_77 (C : Cx E RX0 cc nL p s m args meth c) {a0 : Int32} {a1 : Int32} {v : Value} (h0 : 0 < N) (hM : CtF l E mX4_isIn [.int a0, .int a1] N I F N (some v) I2 F2) (hfit : Fits mX4_isIn R cells slots) (hcat : (st.map fun v => v.category).sum ≤ 8) (d : decode cc pc = .ok (.invokestatic 77, 3)) (kk : G E N nL p l e R s m args below meth c cells slots Q I2 F2 (pc + 3) ls (v :: st)) : G E N nL p l e R s m args below meth c cells slots Q I F pc ls (.int a1 :: .int a0 :: st) := g_callSN C (M := mX4_isIn) (As := [.int a0, .int a1]) (rest := st) (N2 := N) hM lmX0_77 vX4_isIn vtX4_isIn hfit rfl rfl rfl hcat (Or.inl h0) d (fun r9 I9 F9 h9 => by obtain ⟨rfl, rfl, rfl⟩ := h9; exact kk)
theorem lmX0_81 : Cond.methodLink RX0 81 yX0_isHeard ∈ gw := gw_of 440 (by decide +kernel) (by decide +kernel)
theorem kX0_81 (C : Cx E RX0 cc nL p s m args meth c) {a0 : Int32} {v : Value} {k : Nat} (h0 : ob N k 0) (hM : CtF l E mX0_isHeard [rf E k, .int a0] N I F N (some v) I2 F2) (hfit : Fits mX0_isHeard R cells slots) (hcat : (st.map fun v => v.category).sum ≤ 8) (d : decode cc pc = .ok (.invokevirtual 81, 3)) (kk : G E N nL p l e R s m args below meth c cells slots Q I2 F2 (pc + 3) ls (v :: st)) : G E N nL p l e R s m args below meth c cells slots Q I F pc ls (.int a0 :: rf E k :: st) := g_callV C (M := mX0_isHeard) (As := [.int a0]) (rest := st) (N2 := N) hM lmX0_81 vX0_isHeard (q := 0) (CN := RX0) (T := TX0) (nf := 19) rfl (by decide) rfl h0 viX0_isHeard vsX0_isHeard hfit rfl rfl rfl hcat (Or.inl (Nat.lt_of_le_of_lt (Nat.zero_le _) h0.2)) d (fun r9 I9 F9 h9 => by obtain ⟨rfl, rfl, rfl⟩ := h9; exact kk)
theorem lmX0_84 : Cond.methodLink RX0 84 yX0_islandsThatAre ∈ gw := gw_of 531 (by decide +kernel) (by decide +kernel)
theorem kX0_84 (C : Cx E RX0 cc nL p s m args meth c) {a0 : Int32} {v : Value} {k : Nat} (h0 : ob N k 0) (hM : CtF l E mX0_islandsThatAre [rf E k, .int a0] N I F N (some v) I2 F2) (hfit : Fits mX0_islandsThatAre R cells slots) (hcat : (st.map fun v => v.category).sum ≤ 8) (d : decode cc pc = .ok (.invokevirtual 84, 3)) (kk : G E N nL p l e R s m args below meth c cells slots Q I2 F2 (pc + 3) ls (v :: st)) : G E N nL p l e R s m args below meth c cells slots Q I F pc ls (.int a0 :: rf E k :: st) := g_callV C (M := mX0_islandsThatAre) (As := [.int a0]) (rest := st) (N2 := N) hM lmX0_84 vX0_islandsThatAre (q := 0) (CN := RX0) (T := TX0) (nf := 19) rfl (by decide) rfl h0 viX0_islandsThatAre vsX0_islandsThatAre hfit rfl rfl rfl hcat (Or.inl (Nat.lt_of_le_of_lt (Nat.zero_le _) h0.2)) d (fun r9 I9 F9 h9 => by obtain ⟨rfl, rfl, rfl⟩ := h9; exact kk)
theorem lmX0_88 : Cond.methodLink RX0 88 yJ6_bitCount_0f7a4 ∈ gw := gw_of 448 (by decide +kernel) (by decide +kernel)
theorem kX0_88 (C : Cx E RX0 cc nL p s m args meth c) {a0 : Int32} {v : Value} (h0 : 0 < N) (hM : CtF l E mJ6_bitCount_0f7a4 [.int a0] N I F N (some v) I2 F2) (hfit : Fits mJ6_bitCount_0f7a4 R cells slots) (hcat : (st.map fun v => v.category).sum ≤ 8) (d : decode cc pc = .ok (.invokestatic 88, 3)) (kk : G E N nL p l e R s m args below meth c cells slots Q I2 F2 (pc + 3) ls (v :: st)) : G E N nL p l e R s m args below meth c cells slots Q I F pc ls (.int a0 :: st) := g_callS C (M := mJ6_bitCount_0f7a4) (As := [.int a0]) (rest := st) (N2 := N) hM lmX0_88 vJ6_bitCount_0f7a4 vtJ6_bitCount_0f7a4 hfit rfl rfl rfl hcat (Or.inl h0) d (fun r9 I9 F9 h9 => by obtain ⟨rfl, rfl, rfl⟩ := h9; exact kk)
theorem lmX0_93 : Cond.methodLink RX0 93 yX0_orderToWake ∈ gw := gw_of 473 (by decide +kernel) (by decide +kernel)
theorem kX0_93 (C : Cx E RX0 cc nL p s m args meth c) {a0 : Int32} {k : Nat} (h0 : ob N k 0) (hM : CtF l E mX0_orderToWake [rf E k, .int a0] N I F N none I2 F2) (hfit : Fits mX0_orderToWake R cells slots) (hcat : (st.map fun v => v.category).sum ≤ 8) (d : decode cc pc = .ok (.invokevirtual 93, 3)) (kk : G E N nL p l e R s m args below meth c cells slots Q I2 F2 (pc + 3) ls st) : G E N nL p l e R s m args below meth c cells slots Q I F pc ls (.int a0 :: rf E k :: st) := g_callV C (M := mX0_orderToWake) (As := [.int a0]) (rest := st) (N2 := N) hM lmX0_93 vX0_orderToWake (q := 0) (CN := RX0) (T := TX0) (nf := 19) rfl (by decide) rfl h0 viX0_orderToWake vsX0_orderToWake hfit rfl rfl rfl hcat (Or.inl (Nat.lt_of_le_of_lt (Nat.zero_le _) h0.2)) d (fun r9 I9 F9 h9 => by obtain ⟨rfl, rfl, rfl⟩ := h9; exact kk)
theorem lmX0_97 : Cond.methodLink RX0 97 yX0_readOneAnother ∈ gw := gw_of 432 (by decide +kernel) (by decide +kernel)
theorem kX0_97 (C : Cx E RX0 cc nL p s m args meth c)  {k : Nat} (h0 : ob N k 0) (hM : CtF l E mX0_readOneAnother [rf E k] N I F N none I2 F2) (hfit : Fits mX0_readOneAnother R cells slots) (hcat : (st.map fun v => v.category).sum ≤ 8) (d : decode cc pc = .ok (.invokevirtual 97, 3)) (kk : G E N nL p l e R s m args below meth c cells slots Q I2 F2 (pc + 3) ls st) : G E N nL p l e R s m args below meth c cells slots Q I F pc ls (rf E k :: st) := g_callV C (M := mX0_readOneAnother) (As := []) (rest := st) (N2 := N) hM lmX0_97 vX0_readOneAnother (q := 0) (CN := RX0) (T := TX0) (nf := 19) rfl (by decide) rfl h0 viX0_readOneAnother vsX0_readOneAnother hfit rfl rfl rfl hcat (Or.inl (Nat.lt_of_le_of_lt (Nat.zero_le _) h0.2)) d (fun r9 I9 F9 h9 => by obtain ⟨rfl, rfl, rfl⟩ := h9; exact kk)
theorem lmX0_100 : Cond.methodLink RX0 100 yX0_moveOn ∈ gw := gw_of 449 (by decide +kernel) (by decide +kernel)
theorem kX0_100 (C : Cx E RX0 cc nL p s m args meth c)  {k : Nat} (h0 : ob N k 0) (hM : CtF l E mX0_moveOn [rf E k] N I F N none I2 F2) (hfit : Fits mX0_moveOn R cells slots) (hcat : (st.map fun v => v.category).sum ≤ 8) (d : decode cc pc = .ok (.invokevirtual 100, 3)) (kk : G E N nL p l e R s m args below meth c cells slots Q I2 F2 (pc + 3) ls st) : G E N nL p l e R s m args below meth c cells slots Q I F pc ls (rf E k :: st) := g_callV C (M := mX0_moveOn) (As := []) (rest := st) (N2 := N) hM lmX0_100 vX0_moveOn (q := 0) (CN := RX0) (T := TX0) (nf := 19) rfl (by decide) rfl h0 viX0_moveOn vsX0_moveOn hfit rfl rfl rfl hcat (Or.inl (Nat.lt_of_le_of_lt (Nat.zero_le _) h0.2)) d (fun r9 I9 F9 h9 => by obtain ⟨rfl, rfl, rfl⟩ := h9; exact kk)
theorem lmX0_103 : Cond.methodLink RX0 103 yX0_risingLoad ∈ gw := gw_of 478 (by decide +kernel) (by decide +kernel)
theorem kX0_103 (C : Cx E RX0 cc nL p s m args meth c)  {v : Value} {k : Nat} (h0 : ob N k 0) (hM : CtF l E mX0_risingLoad [rf E k] N I F N (some v) I2 F2) (hfit : Fits mX0_risingLoad R cells slots) (hcat : (st.map fun v => v.category).sum ≤ 8) (d : decode cc pc = .ok (.invokevirtual 103, 3)) (kk : G E N nL p l e R s m args below meth c cells slots Q I2 F2 (pc + 3) ls (v :: st)) : G E N nL p l e R s m args below meth c cells slots Q I F pc ls (rf E k :: st) := g_callV C (M := mX0_risingLoad) (As := []) (rest := st) (N2 := N) hM lmX0_103 vX0_risingLoad (q := 0) (CN := RX0) (T := TX0) (nf := 19) rfl (by decide) rfl h0 viX0_risingLoad vsX0_risingLoad hfit rfl rfl rfl hcat (Or.inl (Nat.lt_of_le_of_lt (Nat.zero_le _) h0.2)) d (fun r9 I9 F9 h9 => by obtain ⟨rfl, rfl, rfl⟩ := h9; exact kk)
theorem lmX0_113 : Cond.methodLink RX0 113 yX0_whatTells ∈ gw := gw_of 436 (by decide +kernel) (by decide +kernel)
theorem kX0_113 (C : Cx E RX0 cc nL p s m args meth c) {a0 : Int32} {v : Value} {k : Nat} (h0 : ob N k 0) (hM : CtF l E mX0_whatTells [rf E k, .int a0] N I F N (some v) I2 F2) (hfit : Fits mX0_whatTells R cells slots) (hcat : (st.map fun v => v.category).sum ≤ 8) (d : decode cc pc = .ok (.invokevirtual 113, 3)) (kk : G E N nL p l e R s m args below meth c cells slots Q I2 F2 (pc + 3) ls (v :: st)) : G E N nL p l e R s m args below meth c cells slots Q I F pc ls (.int a0 :: rf E k :: st) := g_callV C (M := mX0_whatTells) (As := [.int a0]) (rest := st) (N2 := N) hM lmX0_113 vX0_whatTells (q := 0) (CN := RX0) (T := TX0) (nf := 19) rfl (by decide) rfl h0 viX0_whatTells vsX0_whatTells hfit rfl rfl rfl hcat (Or.inl (Nat.lt_of_le_of_lt (Nat.zero_le _) h0.2)) d (fun r9 I9 F9 h9 => by obtain ⟨rfl, rfl, rfl⟩ := h9; exact kk)
theorem lmX0_116 : Cond.methodLink RX0 116 yX0_sumTold ∈ gw := gw_of 444 (by decide +kernel) (by decide +kernel)
theorem kX0_116 (C : Cx E RX0 cc nL p s m args meth c) {a0 : Int32} {v : Value} {k : Nat} (h0 : ob N k 0) (hM : CtF l E mX0_sumTold [rf E k, .int a0] N I F N (some v) I2 F2) (hfit : Fits mX0_sumTold R cells slots) (hcat : (st.map fun v => v.category).sum ≤ 8) (d : decode cc pc = .ok (.invokevirtual 116, 3)) (kk : G E N nL p l e R s m args below meth c cells slots Q I2 F2 (pc + 3) ls (v :: st)) : G E N nL p l e R s m args below meth c cells slots Q I F pc ls (.int a0 :: rf E k :: st) := g_callV C (M := mX0_sumTold) (As := [.int a0]) (rest := st) (N2 := N) hM lmX0_116 vX0_sumTold (q := 0) (CN := RX0) (T := TX0) (nf := 19) rfl (by decide) rfl h0 viX0_sumTold vsX0_sumTold hfit rfl rfl rfl hcat (Or.inl (Nat.lt_of_le_of_lt (Nat.zero_le _) h0.2)) d (fun r9 I9 F9 h9 => by obtain ⟨rfl, rfl, rfl⟩ := h9; exact kk)
theorem lmX0_119 : Cond.methodLink RX0 119 yX0_endFalling ∈ gw := gw_of 453 (by decide +kernel) (by decide +kernel)
theorem kX0_119 (C : Cx E RX0 cc nL p s m args meth c)  {k : Nat} (h0 : ob N k 0) (hM : CtF l E mX0_endFalling [rf E k] N I F N none I2 F2) (hfit : Fits mX0_endFalling R cells slots) (hcat : (st.map fun v => v.category).sum ≤ 8) (d : decode cc pc = .ok (.invokevirtual 119, 3)) (kk : G E N nL p l e R s m args below meth c cells slots Q I2 F2 (pc + 3) ls st) : G E N nL p l e R s m args below meth c cells slots Q I F pc ls (rf E k :: st) := g_callV C (M := mX0_endFalling) (As := []) (rest := st) (N2 := N) hM lmX0_119 vX0_endFalling (q := 0) (CN := RX0) (T := TX0) (nf := 19) rfl (by decide) rfl h0 viX0_endFalling vsX0_endFalling hfit rfl rfl rfl hcat (Or.inl (Nat.lt_of_le_of_lt (Nat.zero_le _) h0.2)) d (fun r9 I9 F9 h9 => by obtain ⟨rfl, rfl, rfl⟩ := h9; exact kk)
theorem lmX0_122 : Cond.methodLink RX0 122 yX0_goOnRising ∈ gw := gw_of 461 (by decide +kernel) (by decide +kernel)
theorem kX0_122 (C : Cx E RX0 cc nL p s m args meth c)  {k : Nat} (h0 : ob N k 0) (hM : CtF l E mX0_goOnRising [rf E k] N I F N none I2 F2) (hfit : Fits mX0_goOnRising R cells slots) (hcat : (st.map fun v => v.category).sum ≤ 8) (d : decode cc pc = .ok (.invokevirtual 122, 3)) (kk : G E N nL p l e R s m args below meth c cells slots Q I2 F2 (pc + 3) ls st) : G E N nL p l e R s m args below meth c cells slots Q I F pc ls (rf E k :: st) := g_callV C (M := mX0_goOnRising) (As := []) (rest := st) (N2 := N) hM lmX0_122 vX0_goOnRising (q := 0) (CN := RX0) (T := TX0) (nf := 19) rfl (by decide) rfl h0 viX0_goOnRising vsX0_goOnRising hfit rfl rfl rfl hcat (Or.inl (Nat.lt_of_le_of_lt (Nat.zero_le _) h0.2)) d (fun r9 I9 F9 h9 => by obtain ⟨rfl, rfl, rfl⟩ := h9; exact kk)
theorem lmX0_125 : Cond.methodLink RX0 125 yX0_askForSleepers ∈ gw := gw_of 469 (by decide +kernel) (by decide +kernel)
theorem kX0_125 (C : Cx E RX0 cc nL p s m args meth c)  {k : Nat} (h0 : ob N k 0) (hM : CtF l E mX0_askForSleepers [rf E k] N I F N none I2 F2) (hfit : Fits mX0_askForSleepers R cells slots) (hcat : (st.map fun v => v.category).sum ≤ 8) (d : decode cc pc = .ok (.invokevirtual 125, 3)) (kk : G E N nL p l e R s m args below meth c cells slots Q I2 F2 (pc + 3) ls st) : G E N nL p l e R s m args below meth c cells slots Q I F pc ls (rf E k :: st) := g_callV C (M := mX0_askForSleepers) (As := []) (rest := st) (N2 := N) hM lmX0_125 vX0_askForSleepers (q := 0) (CN := RX0) (T := TX0) (nf := 19) rfl (by decide) rfl h0 viX0_askForSleepers vsX0_askForSleepers hfit rfl rfl rfl hcat (Or.inl (Nat.lt_of_le_of_lt (Nat.zero_le _) h0.2)) d (fun r9 I9 F9 h9 => by obtain ⟨rfl, rfl, rfl⟩ := h9; exact kk)
theorem lmX0_128 : Cond.methodLink RX0 128 yX0_beginRising ∈ gw := gw_of 474 (by decide +kernel) (by decide +kernel)
theorem kX0_128 (C : Cx E RX0 cc nL p s m args meth c)  {k : Nat} (h0 : ob N k 0) (hM : CtF l E mX0_beginRising [rf E k] N I F N none I2 F2) (hfit : Fits mX0_beginRising R cells slots) (hcat : (st.map fun v => v.category).sum ≤ 8) (d : decode cc pc = .ok (.invokevirtual 128, 3)) (kk : G E N nL p l e R s m args below meth c cells slots Q I2 F2 (pc + 3) ls st) : G E N nL p l e R s m args below meth c cells slots Q I F pc ls (rf E k :: st) := g_callV C (M := mX0_beginRising) (As := []) (rest := st) (N2 := N) hM lmX0_128 vX0_beginRising (q := 0) (CN := RX0) (T := TX0) (nf := 19) rfl (by decide) rfl h0 viX0_beginRising vsX0_beginRising hfit rfl rfl rfl hcat (Or.inl (Nat.lt_of_le_of_lt (Nat.zero_le _) h0.2)) d (fun r9 I9 F9 h9 => by obtain ⟨rfl, rfl, rfl⟩ := h9; exact kk)
theorem lmX0_131 : Cond.methodLink RX0 131 yX0_keepOrLose ∈ gw := gw_of 457 (by decide +kernel) (by decide +kernel)
theorem kX0_131 (C : Cx E RX0 cc nL p s m args meth c) {a0 : Int32} {k : Nat} (h0 : ob N k 0) (hM : CtF l E mX0_keepOrLose [rf E k, .int a0] N I F N none I2 F2) (hfit : Fits mX0_keepOrLose R cells slots) (hcat : (st.map fun v => v.category).sum ≤ 8) (d : decode cc pc = .ok (.invokevirtual 131, 3)) (kk : G E N nL p l e R s m args below meth c cells slots Q I2 F2 (pc + 3) ls st) : G E N nL p l e R s m args below meth c cells slots Q I F pc ls (.int a0 :: rf E k :: st) := g_callV C (M := mX0_keepOrLose) (As := [.int a0]) (rest := st) (N2 := N) hM lmX0_131 vX0_keepOrLose (q := 0) (CN := RX0) (T := TX0) (nf := 19) rfl (by decide) rfl h0 viX0_keepOrLose vsX0_keepOrLose hfit rfl rfl rfl hcat (Or.inl (Nat.lt_of_le_of_lt (Nat.zero_le _) h0.2)) d (fun r9 I9 F9 h9 => by obtain ⟨rfl, rfl, rfl⟩ := h9; exact kk)
theorem lmX0_134 : Cond.methodLink RX0 134 yX0_endRising ∈ gw := gw_of 465 (by decide +kernel) (by decide +kernel)
theorem kX0_134 (C : Cx E RX0 cc nL p s m args meth c) {a0 : Int32} {k : Nat} (h0 : ob N k 0) (hM : CtF l E mX0_endRising [rf E k, .int a0] N I F N none I2 F2) (hfit : Fits mX0_endRising R cells slots) (hcat : (st.map fun v => v.category).sum ≤ 8) (d : decode cc pc = .ok (.invokevirtual 134, 3)) (kk : G E N nL p l e R s m args below meth c cells slots Q I2 F2 (pc + 3) ls st) : G E N nL p l e R s m args below meth c cells slots Q I F pc ls (.int a0 :: rf E k :: st) := g_callV C (M := mX0_endRising) (As := [.int a0]) (rest := st) (N2 := N) hM lmX0_134 vX0_endRising (q := 0) (CN := RX0) (T := TX0) (nf := 19) rfl (by decide) rfl h0 viX0_endRising vsX0_endRising hfit rfl rfl rfl hcat (Or.inl (Nat.lt_of_le_of_lt (Nat.zero_le _) h0.2)) d (fun r9 I9 F9 h9 => by obtain ⟨rfl, rfl, rfl⟩ := h9; exact kk)
theorem lmX1_11 : Cond.methodLinkNest RX1 11 yX0_init "SleepingIslands" ∈ nw := nw_of 210 (by decide +kernel) (by decide +kernel)
theorem kX1_11 (C : Cx E RX1 cc nL p s m args meth c)  {k : Nat} (h0 : ob N k 0) (hM : CtF l E mX0_init [rf E k] N I F (N + 10) none I2 F2) (hfit : Fits mX0_init R cells slots) (hcat : (st.map fun v => v.category).sum ≤ 8) (d : decode cc pc = .ok (.invokespecial 11, 3)) (kk : G E (N + 10) nL p l e R s m args below meth c (cells + 10) (slots + 80) Q I2 F2 (pc + 3) ls st) : G E N nL p l e R s m args below meth c cells slots Q I F pc ls (rf E k :: st) := g_callIN C (M := mX0_init) (As := []) (rest := st) (N2 := (N + 10)) hM lmX1_11 vX0_init rfl rfl viX0_init hfit rfl rfl rfl hcat (Or.inl (Nat.lt_of_le_of_lt (Nat.zero_le _) h0.2)) d (fun r9 I9 F9 h9 => by obtain ⟨rfl, rfl, rfl⟩ := h9; exact kk)
theorem lmX1_18 : Cond.methodLink RX1 18 yX1_beginIsland ∈ gw := gw_of 211 (by decide +kernel) (by decide +kernel)
theorem kX1_18 (C : Cx E RX1 cc nL p s m args meth c)  {k : Nat} (h0 : ob N k 1) (hM : CtF l E mX1_beginIsland [rf E k] N I F N none I2 F2) (hfit : Fits mX1_beginIsland R cells slots) (hcat : (st.map fun v => v.category).sum ≤ 8) (d : decode cc pc = .ok (.invokevirtual 18, 3)) (kk : G E N nL p l e R s m args below meth c cells slots Q I2 F2 (pc + 3) ls st) : G E N nL p l e R s m args below meth c cells slots Q I F pc ls (rf E k :: st) := g_callV C (M := mX1_beginIsland) (As := []) (rest := st) (N2 := N) hM lmX1_18 vX1_beginIsland (q := 1) (CN := RX1) (T := TX1) (nf := 7) rfl (by decide) rfl h0 viX1_beginIsland vsX1_beginIsland hfit rfl rfl rfl hcat (Or.inl (Nat.lt_of_le_of_lt (Nat.zero_le _) h0.2)) d (fun r9 I9 F9 h9 => by obtain ⟨rfl, rfl, rfl⟩ := h9; exact kk)
theorem lmX1_21 : Cond.methodLinkNest RX1 21 yX0_clear "SleepingIslands" ∈ nw := nw_of 330 (by decide +kernel) (by decide +kernel)
theorem kX1_21 (C : Cx E RX1 cc nL p s m args meth c)  {k : Nat} (h0 : ob N k 0) (hM : CtF l E mX0_clear [rf E k] N I F N none I2 F2) (hfit : Fits mX0_clear R cells slots) (hcat : (st.map fun v => v.category).sum ≤ 8) (d : decode cc pc = .ok (.invokevirtual 21, 3)) (kk : G E N nL p l e R s m args below meth c cells slots Q I2 F2 (pc + 3) ls st) : G E N nL p l e R s m args below meth c cells slots Q I F pc ls (rf E k :: st) := g_callVN C (M := mX0_clear) (As := []) (rest := st) (N2 := N) hM lmX1_21 vX0_clear (q := 0) (CN := RX0) (T := TX0) (nf := 19) rfl (by decide) rfl h0 viX0_clear vsX0_clear hfit rfl rfl rfl hcat (Or.inl (Nat.lt_of_le_of_lt (Nat.zero_le _) h0.2)) d (fun r9 I9 F9 h9 => by obtain ⟨rfl, rfl, rfl⟩ := h9; exact kk)
theorem lmX1_34 : Cond.methodLink RX1 34 yX1_takes ∈ gw := gw_of 331 (by decide +kernel) (by decide +kernel)
theorem kX1_34 (C : Cx E RX1 cc nL p s m args meth c) {a0 : Int32} {v : Value} {k : Nat} (h0 : ob N k 1) (hM : CtF l E mX1_takes [rf E k, .int a0] N I F N (some v) I2 F2) (hfit : Fits mX1_takes R cells slots) (hcat : (st.map fun v => v.category).sum ≤ 8) (d : decode cc pc = .ok (.invokevirtual 34, 3)) (kk : G E N nL p l e R s m args below meth c cells slots Q I2 F2 (pc + 3) ls (v :: st)) : G E N nL p l e R s m args below meth c cells slots Q I F pc ls (.int a0 :: rf E k :: st) := g_callV C (M := mX1_takes) (As := [.int a0]) (rest := st) (N2 := N) hM lmX1_34 vX1_takes (q := 1) (CN := RX1) (T := TX1) (nf := 7) rfl (by decide) rfl h0 viX1_takes vsX1_takes hfit rfl rfl rfl hcat (Or.inl (Nat.lt_of_le_of_lt (Nat.zero_le _) h0.2)) d (fun r9 I9 F9 h9 => by obtain ⟨rfl, rfl, rfl⟩ := h9; exact kk)
theorem lmX1_41 : Cond.methodLink RX1 41 yX1_endIsland ∈ gw := gw_of 364 (by decide +kernel) (by decide +kernel)
theorem kX1_41 (C : Cx E RX1 cc nL p s m args meth c)  {k : Nat} (h0 : ob N k 1) (hM : CtF l E mX1_endIsland [rf E k] N I F N none I2 F2) (hfit : Fits mX1_endIsland R cells slots) (hcat : (st.map fun v => v.category).sum ≤ 8) (d : decode cc pc = .ok (.invokevirtual 41, 3)) (kk : G E N nL p l e R s m args below meth c cells slots Q I2 F2 (pc + 3) ls st) : G E N nL p l e R s m args below meth c cells slots Q I F pc ls (rf E k :: st) := g_callV C (M := mX1_endIsland) (As := []) (rest := st) (N2 := N) hM lmX1_41 vX1_endIsland (q := 1) (CN := RX1) (T := TX1) (nf := 7) rfl (by decide) rfl h0 viX1_endIsland vsX1_endIsland hfit rfl rfl rfl hcat (Or.inl (Nat.lt_of_le_of_lt (Nat.zero_le _) h0.2)) d (fun r9 I9 F9 h9 => by obtain ⟨rfl, rfl, rfl⟩ := h9; exact kk)
theorem lmX1_60 : Cond.methodLinkNest RX1 60 yX0_addIsland "SleepingIslands" ∈ nw := nw_of 368 (by decide +kernel) (by decide +kernel)
theorem kX1_60 (C : Cx E RX1 cc nL p s m args meth c) {a0 : Int32} {a1 : Int32} {a2 : Int32} {a3 : Int32} {a4 : Int32} {k : Nat} (h0 : ob N k 0) (hM : CtF l E mX0_addIsland [rf E k, .int a0, .int a1, .int a2, .int a3, .int a4] N I F N none I2 F2) (hfit : Fits mX0_addIsland R cells slots) (hcat : (st.map fun v => v.category).sum ≤ 8) (d : decode cc pc = .ok (.invokevirtual 60, 3)) (kk : G E N nL p l e R s m args below meth c cells slots Q I2 F2 (pc + 3) ls st) : G E N nL p l e R s m args below meth c cells slots Q I F pc ls (.int a4 :: .int a3 :: .int a2 :: .int a1 :: .int a0 :: rf E k :: st) := g_callVN C (M := mX0_addIsland) (As := [.int a0, .int a1, .int a2, .int a3, .int a4]) (rest := st) (N2 := N) hM lmX1_60 vX0_addIsland (q := 0) (CN := RX0) (T := TX0) (nf := 19) rfl (by decide) rfl h0 viX0_addIsland vsX0_addIsland hfit rfl rfl rfl hcat (Or.inl (Nat.lt_of_le_of_lt (Nat.zero_le _) h0.2)) d (fun r9 I9 F9 h9 => by obtain ⟨rfl, rfl, rfl⟩ := h9; exact kk)
theorem lmX1_64 : Cond.methodLink RX1 64 yX1_takesIsolator ∈ gw := gw_of 335 (by decide +kernel) (by decide +kernel)
theorem kX1_64 (C : Cx E RX1 cc nL p s m args meth c) {a0 : Int32} {v : Value} {k : Nat} (h0 : ob N k 1) (hM : CtF l E mX1_takesIsolator [rf E k, .int a0] N I F N (some v) I2 F2) (hfit : Fits mX1_takesIsolator R cells slots) (hcat : (st.map fun v => v.category).sum ≤ 8) (d : decode cc pc = .ok (.invokevirtual 64, 3)) (kk : G E N nL p l e R s m args below meth c cells slots Q I2 F2 (pc + 3) ls (v :: st)) : G E N nL p l e R s m args below meth c cells slots Q I F pc ls (.int a0 :: rf E k :: st) := g_callV C (M := mX1_takesIsolator) (As := [.int a0]) (rest := st) (N2 := N) hM lmX1_64 vX1_takesIsolator (q := 1) (CN := RX1) (T := TX1) (nf := 7) rfl (by decide) rfl h0 viX1_takesIsolator vsX1_takesIsolator hfit rfl rfl rfl hcat (Or.inl (Nat.lt_of_le_of_lt (Nat.zero_le _) h0.2)) d (fun r9 I9 F9 h9 => by obtain ⟨rfl, rfl, rfl⟩ := h9; exact kk)
theorem lmX1_67 : Cond.methodLink RX1 67 yX1_takesKeeper ∈ gw := gw_of 339 (by decide +kernel) (by decide +kernel)
theorem kX1_67 (C : Cx E RX1 cc nL p s m args meth c) {a0 : Int32} {v : Value} {k : Nat} (h0 : ob N k 1) (hM : CtF l E mX1_takesKeeper [rf E k, .int a0] N I F N (some v) I2 F2) (hfit : Fits mX1_takesKeeper R cells slots) (hcat : (st.map fun v => v.category).sum ≤ 8) (d : decode cc pc = .ok (.invokevirtual 67, 3)) (kk : G E N nL p l e R s m args below meth c cells slots Q I2 F2 (pc + 3) ls (v :: st)) : G E N nL p l e R s m args below meth c cells slots Q I F pc ls (.int a0 :: rf E k :: st) := g_callV C (M := mX1_takesKeeper) (As := [.int a0]) (rest := st) (N2 := N) hM lmX1_67 vX1_takesKeeper (q := 1) (CN := RX1) (T := TX1) (nf := 7) rfl (by decide) rfl h0 viX1_takesKeeper vsX1_takesKeeper hfit rfl rfl rfl hcat (Or.inl (Nat.lt_of_le_of_lt (Nat.zero_le _) h0.2)) d (fun r9 I9 F9 h9 => by obtain ⟨rfl, rfl, rfl⟩ := h9; exact kk)
theorem lmX1_70 : Cond.methodLink RX1 70 yX1_takesRise ∈ gw := gw_of 343 (by decide +kernel) (by decide +kernel)
theorem kX1_70 (C : Cx E RX1 cc nL p s m args meth c) {a0 : Int32} {v : Value} {k : Nat} (h0 : ob N k 1) (hM : CtF l E mX1_takesRise [rf E k, .int a0] N I F N (some v) I2 F2) (hfit : Fits mX1_takesRise R cells slots) (hcat : (st.map fun v => v.category).sum ≤ 8) (d : decode cc pc = .ok (.invokevirtual 70, 3)) (kk : G E N nL p l e R s m args below meth c cells slots Q I2 F2 (pc + 3) ls (v :: st)) : G E N nL p l e R s m args below meth c cells slots Q I F pc ls (.int a0 :: rf E k :: st) := g_callV C (M := mX1_takesRise) (As := [.int a0]) (rest := st) (N2 := N) hM lmX1_70 vX1_takesRise (q := 1) (CN := RX1) (T := TX1) (nf := 7) rfl (by decide) rfl h0 viX1_takesRise vsX1_takesRise hfit rfl rfl rfl hcat (Or.inl (Nat.lt_of_le_of_lt (Nat.zero_le _) h0.2)) d (fun r9 I9 F9 h9 => by obtain ⟨rfl, rfl, rfl⟩ := h9; exact kk)
theorem lmX1_73 : Cond.methodLink RX1 73 yX1_takesComma ∈ gw := gw_of 347 (by decide +kernel) (by decide +kernel)
theorem kX1_73 (C : Cx E RX1 cc nL p s m args meth c) {a0 : Int32} {v : Value} {k : Nat} (h0 : ob N k 1) (hM : CtF l E mX1_takesComma [rf E k, .int a0] N I F N (some v) I2 F2) (hfit : Fits mX1_takesComma R cells slots) (hcat : (st.map fun v => v.category).sum ≤ 8) (d : decode cc pc = .ok (.invokevirtual 73, 3)) (kk : G E N nL p l e R s m args below meth c cells slots Q I2 F2 (pc + 3) ls (v :: st)) : G E N nL p l e R s m args below meth c cells slots Q I F pc ls (.int a0 :: rf E k :: st) := g_callV C (M := mX1_takesComma) (As := [.int a0]) (rest := st) (N2 := N) hM lmX1_73 vX1_takesComma (q := 1) (CN := RX1) (T := TX1) (nf := 7) rfl (by decide) rfl h0 viX1_takesComma vsX1_takesComma hfit rfl rfl rfl hcat (Or.inl (Nat.lt_of_le_of_lt (Nat.zero_le _) h0.2)) d (fun r9 I9 F9 h9 => by obtain ⟨rfl, rfl, rfl⟩ := h9; exact kk)
theorem lmX1_76 : Cond.methodLink RX1 76 yX1_takesLoad ∈ gw := gw_of 351 (by decide +kernel) (by decide +kernel)
theorem kX1_76 (C : Cx E RX1 cc nL p s m args meth c) {a0 : Int32} {v : Value} {k : Nat} (h0 : ob N k 1) (hM : CtF l E mX1_takesLoad [rf E k, .int a0] N I F N (some v) I2 F2) (hfit : Fits mX1_takesLoad R cells slots) (hcat : (st.map fun v => v.category).sum ≤ 8) (d : decode cc pc = .ok (.invokevirtual 76, 3)) (kk : G E N nL p l e R s m args below meth c cells slots Q I2 F2 (pc + 3) ls (v :: st)) : G E N nL p l e R s m args below meth c cells slots Q I F pc ls (.int a0 :: rf E k :: st) := g_callV C (M := mX1_takesLoad) (As := [.int a0]) (rest := st) (N2 := N) hM lmX1_76 vX1_takesLoad (q := 1) (CN := RX1) (T := TX1) (nf := 7) rfl (by decide) rfl h0 viX1_takesLoad vsX1_takesLoad hfit rfl rfl rfl hcat (Or.inl (Nat.lt_of_le_of_lt (Nat.zero_le _) h0.2)) d (fun r9 I9 F9 h9 => by obtain ⟨rfl, rfl, rfl⟩ := h9; exact kk)
theorem lmX1_79 : Cond.methodLink RX1 79 yX1_takesArrow ∈ gw := gw_of 356 (by decide +kernel) (by decide +kernel)
theorem kX1_79 (C : Cx E RX1 cc nL p s m args meth c) {a0 : Int32} {v : Value} {k : Nat} (h0 : ob N k 1) (hM : CtF l E mX1_takesArrow [rf E k, .int a0] N I F N (some v) I2 F2) (hfit : Fits mX1_takesArrow R cells slots) (hcat : (st.map fun v => v.category).sum ≤ 8) (d : decode cc pc = .ok (.invokevirtual 79, 3)) (kk : G E N nL p l e R s m args below meth c cells slots Q I2 F2 (pc + 3) ls (v :: st)) : G E N nL p l e R s m args below meth c cells slots Q I F pc ls (.int a0 :: rf E k :: st) := g_callV C (M := mX1_takesArrow) (As := [.int a0]) (rest := st) (N2 := N) hM lmX1_79 vX1_takesArrow (q := 1) (CN := RX1) (T := TX1) (nf := 7) rfl (by decide) rfl h0 viX1_takesArrow vsX1_takesArrow hfit rfl rfl rfl hcat (Or.inl (Nat.lt_of_le_of_lt (Nat.zero_le _) h0.2)) d (fun r9 I9 F9 h9 => by obtain ⟨rfl, rfl, rfl⟩ := h9; exact kk)
theorem lmX1_82 : Cond.methodLink RX1 82 yX1_takesEnd ∈ gw := gw_of 360 (by decide +kernel) (by decide +kernel)
theorem kX1_82 (C : Cx E RX1 cc nL p s m args meth c) {a0 : Int32} {v : Value} {k : Nat} (h0 : ob N k 1) (hM : CtF l E mX1_takesEnd [rf E k, .int a0] N I F N (some v) I2 F2) (hfit : Fits mX1_takesEnd R cells slots) (hcat : (st.map fun v => v.category).sum ≤ 8) (d : decode cc pc = .ok (.invokevirtual 82, 3)) (kk : G E N nL p l e R s m args below meth c cells slots Q I2 F2 (pc + 3) ls (v :: st)) : G E N nL p l e R s m args below meth c cells slots Q I F pc ls (.int a0 :: rf E k :: st) := g_callV C (M := mX1_takesEnd) (As := [.int a0]) (rest := st) (N2 := N) hM lmX1_82 vX1_takesEnd (q := 1) (CN := RX1) (T := TX1) (nf := 7) rfl (by decide) rfl h0 viX1_takesEnd vsX1_takesEnd hfit rfl rfl rfl hcat (Or.inl (Nat.lt_of_le_of_lt (Nat.zero_le _) h0.2)) d (fun r9 I9 F9 h9 => by obtain ⟨rfl, rfl, rfl⟩ := h9; exact kk)
theorem lmX1_85 : Cond.methodLink RX1 85 yX1_takesNumber ∈ gw := gw_of 369 (by decide +kernel) (by decide +kernel)
theorem kX1_85 (C : Cx E RX1 cc nL p s m args meth c) {a0 : Int32} {v : Value} {k : Nat} (h0 : ob N k 1) (hM : CtF l E mX1_takesNumber [rf E k, .int a0] N I F N (some v) I2 F2) (hfit : Fits mX1_takesNumber R cells slots) (hcat : (st.map fun v => v.category).sum ≤ 8) (d : decode cc pc = .ok (.invokevirtual 85, 3)) (kk : G E N nL p l e R s m args below meth c cells slots Q I2 F2 (pc + 3) ls (v :: st)) : G E N nL p l e R s m args below meth c cells slots Q I F pc ls (.int a0 :: rf E k :: st) := g_callV C (M := mX1_takesNumber) (As := [.int a0]) (rest := st) (N2 := N) hM lmX1_85 vX1_takesNumber (q := 1) (CN := RX1) (T := TX1) (nf := 7) rfl (by decide) rfl h0 viX1_takesNumber vsX1_takesNumber hfit rfl rfl rfl hcat (Or.inl (Nat.lt_of_le_of_lt (Nat.zero_le _) h0.2)) d (fun r9 I9 F9 h9 => by obtain ⟨rfl, rfl, rfl⟩ := h9; exact kk)
theorem lmX1_88 : Cond.methodLinkNest RX1 88 yX4_isWithin "SleepingIslands" ∈ nw := nw_of 355 (by decide +kernel) (by decide +kernel)
theorem kX1_88 (C : Cx E RX1 cc nL p s m args meth c) {a0 : Int32} {a1 : Int32} {a2 : Int32} {v : Value} (h0 : 0 < N) (hM : CtF l E mX4_isWithin [.int a0, .int a1, .int a2] N I F N (some v) I2 F2) (hfit : Fits mX4_isWithin R cells slots) (hcat : (st.map fun v => v.category).sum ≤ 8) (d : decode cc pc = .ok (.invokestatic 88, 3)) (kk : G E N nL p l e R s m args below meth c cells slots Q I2 F2 (pc + 3) ls (v :: st)) : G E N nL p l e R s m args below meth c cells slots Q I F pc ls (.int a2 :: .int a1 :: .int a0 :: st) := g_callSN C (M := mX4_isWithin) (As := [.int a0, .int a1, .int a2]) (rest := st) (N2 := N) hM lmX1_88 vX4_isWithin vtX4_isWithin hfit rfl rfl rfl hcat (Or.inl h0) d (fun r9 I9 F9 h9 => by obtain ⟨rfl, rfl, rfl⟩ := h9; exact kk)
theorem lmX2_21 : Cond.methodLinkNest RX2 21 yX0_init "SleepingIslands" ∈ nw := nw_of 246 (by decide +kernel) (by decide +kernel)
theorem kX2_21 (C : Cx E RX2 cc nL p s m args meth c)  {k : Nat} (h0 : ob N k 0) (hM : CtF l E mX0_init [rf E k] N I F (N + 10) none I2 F2) (hfit : Fits mX0_init R cells slots) (hcat : (st.map fun v => v.category).sum ≤ 8) (d : decode cc pc = .ok (.invokespecial 21, 3)) (kk : G E (N + 10) nL p l e R s m args below meth c (cells + 10) (slots + 80) Q I2 F2 (pc + 3) ls st) : G E N nL p l e R s m args below meth c cells slots Q I F pc ls (rf E k :: st) := g_callIN C (M := mX0_init) (As := []) (rest := st) (N2 := (N + 10)) hM lmX2_21 vX0_init rfl rfl viX0_init hfit rfl rfl rfl hcat (Or.inl (Nat.lt_of_le_of_lt (Nat.zero_le _) h0.2)) d (fun r9 I9 F9 h9 => by obtain ⟨rfl, rfl, rfl⟩ := h9; exact kk)
theorem lmX2_22 : Cond.methodLink RX2 22 yX2_dropOldest ∈ gw := gw_of 295 (by decide +kernel) (by decide +kernel)
theorem kX2_22 (C : Cx E RX2 cc nL p s m args meth c)  {k : Nat} (h0 : ob N k 2) (hM : CtF l E mX2_dropOldest [rf E k] N I F N none I2 F2) (hfit : Fits mX2_dropOldest R cells slots) (hcat : (st.map fun v => v.category).sum ≤ 8) (d : decode cc pc = .ok (.invokevirtual 22, 3)) (kk : G E N nL p l e R s m args below meth c cells slots Q I2 F2 (pc + 3) ls st) : G E N nL p l e R s m args below meth c cells slots Q I F pc ls (rf E k :: st) := g_callV C (M := mX2_dropOldest) (As := []) (rest := st) (N2 := N) hM lmX2_22 vX2_dropOldest (q := 2) (CN := RX2) (T := TX2) (nf := 2) rfl (by decide) rfl h0 viX2_dropOldest vsX2_dropOldest hfit rfl rfl rfl hcat (Or.inl (Nat.lt_of_le_of_lt (Nat.zero_le _) h0.2)) d (fun r9 I9 F9 h9 => by obtain ⟨rfl, rfl, rfl⟩ := h9; exact kk)
theorem lmX2_25 : Cond.methodLink RX2 25 yX2_stateAt ∈ gw := gw_of 299 (by decide +kernel) (by decide +kernel)
theorem kX2_25 (C : Cx E RX2 cc nL p s m args meth c) {a0 : Int32} {v : Value} {k : Nat} (h0 : ob N k 2) (hM : CtF l E mX2_stateAt [rf E k, .int a0] N I F N (some v) I2 F2) (hfit : Fits mX2_stateAt R cells slots) (hcat : (st.map fun v => v.category).sum ≤ 8) (d : decode cc pc = .ok (.invokevirtual 25, 3)) (kk : G E N nL p l e R s m args below meth c cells slots Q I2 F2 (pc + 3) ls (v :: st)) : G E N nL p l e R s m args below meth c cells slots Q I F pc ls (.int a0 :: rf E k :: st) := g_callV C (M := mX2_stateAt) (As := [.int a0]) (rest := st) (N2 := N) hM lmX2_25 vX2_stateAt (q := 2) (CN := RX2) (T := TX2) (nf := 2) rfl (by decide) rfl h0 viX2_stateAt vsX2_stateAt hfit rfl rfl rfl hcat (Or.inl (Nat.lt_of_le_of_lt (Nat.zero_le _) h0.2)) d (fun r9 I9 F9 h9 => by obtain ⟨rfl, rfl, rfl⟩ := h9; exact kk)
theorem lmX2_29 : Cond.methodLinkNest RX2 29 yX0_copyFrom "SleepingIslands" ∈ nw := nw_of 303 (by decide +kernel) (by decide +kernel)
theorem kX2_29 (C : Cx E RX2 cc nL p s m args meth c) {a0 : Nat} {k : Nat} (h0 : ob N k 0) (hM : CtF l E mX0_copyFrom [rf E k, rf E a0] N I F N none I2 F2) (hfit : Fits mX0_copyFrom R cells slots) (hcat : (st.map fun v => v.category).sum ≤ 8) (d : decode cc pc = .ok (.invokevirtual 29, 3)) (kk : G E N nL p l e R s m args below meth c cells slots Q I2 F2 (pc + 3) ls st) : G E N nL p l e R s m args below meth c cells slots Q I F pc ls (rf E a0 :: rf E k :: st) := g_callVN C (M := mX0_copyFrom) (As := [rf E a0]) (rest := st) (N2 := N) hM lmX2_29 vX0_copyFrom (q := 0) (CN := RX0) (T := TX0) (nf := 19) rfl (by decide) rfl h0 viX0_copyFrom vsX0_copyFrom hfit rfl rfl rfl hcat (Or.inl (Nat.lt_of_le_of_lt (Nat.zero_le _) h0.2)) d (fun r9 I9 F9 h9 => by obtain ⟨rfl, rfl, rfl⟩ := h9; exact kk)
theorem lmL_9 : Cond.methodLink RL 9 yX4_init ∈ gw := gw_of 93 (by decide +kernel) (by decide +kernel)
theorem kL_9 (C : Cx E RL cc nL p s m args meth c)  {k : Nat} (h0 : ob N k 4) (hM : CtF l E mX4_init [rf E k] N I F (N + 126) none I2 F2) (hfit : Fits mX4_init R cells slots) (hcat : (st.map fun v => v.category).sum ≤ 8) (d : decode cc pc = .ok (.invokespecial 9, 3)) (kk : G E (N + 126) nL p l e R s m args below meth c (cells + 126) (slots + 1170) Q I2 F2 (pc + 3) ls st) : G E N nL p l e R s m args below meth c cells slots Q I F pc ls (rf E k :: st) := g_callI C (M := mX4_init) (As := []) (rest := st) (N2 := (N + 126)) hM lmL_9 vX4_init rfl rfl viX4_init hfit rfl rfl rfl hcat (Or.inl (Nat.lt_of_le_of_lt (Nat.zero_le _) h0.2)) d (fun r9 I9 F9 h9 => by obtain ⟨rfl, rfl, rfl⟩ := h9; exact kk)
theorem lmL_12 : Cond.methodLink RL 12 yX5_init ∈ gw := gw_of 591 (by decide +kernel) (by decide +kernel)
theorem kL_12 (C : Cx E RL cc nL p s m args meth c)  {k : Nat} (h0 : ob N k 5) (hM : CtF l E mX5_init [rf E k] N I F (N + 8) none I2 F2) (hfit : Fits mX5_init R cells slots) (hcat : (st.map fun v => v.category).sum ≤ 8) (d : decode cc pc = .ok (.invokespecial 12, 3)) (kk : G E (N + 8) nL p l e R s m args below meth c (cells + 8) (slots + 1042) Q I2 F2 (pc + 3) ls st) : G E N nL p l e R s m args below meth c cells slots Q I F pc ls (rf E k :: st) := g_callI C (M := mX5_init) (As := []) (rest := st) (N2 := (N + 8)) hM lmL_12 vX5_init rfl rfl viX5_init hfit rfl rfl rfl hcat (Or.inl (Nat.lt_of_le_of_lt (Nat.zero_le _) h0.2)) d (fun r9 I9 F9 h9 => by obtain ⟨rfl, rfl, rfl⟩ := h9; exact kk)
theorem lmL_13 : Cond.methodLink RL 13 yX4_set ∈ gw := gw_of 280 (by decide +kernel) (by decide +kernel)
theorem kL_13 (C : Cx E RL cc nL p s m args meth c) {a0 : Int32} {a1 : Int32} {v : Value} {k : Nat} (h0 : ob N k 4) (hM : CtF l E mX4_set [rf E k, .int a0, .int a1] N I F N (some v) I2 F2) (hfit : Fits mX4_set R cells slots) (hcat : (st.map fun v => v.category).sum ≤ 8) (d : decode cc pc = .ok (.invokevirtual 13, 3)) (kk : G E N nL p l e R s m args below meth c cells slots Q I2 F2 (pc + 3) ls (v :: st)) : G E N nL p l e R s m args below meth c cells slots Q I F pc ls (.int a1 :: .int a0 :: rf E k :: st) := g_callV C (M := mX4_set) (As := [.int a0, .int a1]) (rest := st) (N2 := N) hM lmL_13 vX4_set (q := 4) (CN := RX4) (T := TX4) (nf := 8) rfl (by decide) rfl h0 viX4_set vsX4_set hfit rfl rfl rfl hcat (Or.inl (Nat.lt_of_le_of_lt (Nat.zero_le _) h0.2)) d (fun r9 I9 F9 h9 => by obtain ⟨rfl, rfl, rfl⟩ := h9; exact kk)
theorem lmL_17 : Cond.methodLink RL 17 yX5_set ∈ gw := gw_of 644 (by decide +kernel) (by decide +kernel)
theorem kL_17 (C : Cx E RL cc nL p s m args meth c) {a0 : Int32} {a1 : Int32} {v : Value} {k : Nat} (h0 : ob N k 5) (hM : CtF l E mX5_set [rf E k, .int a0, .int a1] N I F N (some v) I2 F2) (hfit : Fits mX5_set R cells slots) (hcat : (st.map fun v => v.category).sum ≤ 8) (d : decode cc pc = .ok (.invokevirtual 17, 3)) (kk : G E N nL p l e R s m args below meth c cells slots Q I2 F2 (pc + 3) ls (v :: st)) : G E N nL p l e R s m args below meth c cells slots Q I F pc ls (.int a1 :: .int a0 :: rf E k :: st) := g_callV C (M := mX5_set) (As := [.int a0, .int a1]) (rest := st) (N2 := N) hM lmL_17 vX5_set (q := 5) (CN := RX5) (T := TX5) (nf := 16) rfl (by decide) rfl h0 viX5_set vsX5_set hfit rfl rfl rfl hcat (Or.inl (Nat.lt_of_le_of_lt (Nat.zero_le _) h0.2)) d (fun r9 I9 F9 h9 => by obtain ⟨rfl, rfl, rfl⟩ := h9; exact kk)
theorem lmL_18 : Cond.methodLink RL 18 yX4_build ∈ gw := gw_of 311 (by decide +kernel) (by decide +kernel)
theorem kL_18 (C : Cx E RL cc nL p s m args meth c) {a0 : Int32} {a1 : Int32} {a2 : Int32} {a3 : Int32} {v : Value} {k : Nat} (h0 : ob N k 4) (hM : CtF l E mX4_build [rf E k, .int a0, .int a1, .int a2, .int a3] N I F N (some v) I2 F2) (hfit : Fits mX4_build R cells slots) (hcat : (st.map fun v => v.category).sum ≤ 8) (d : decode cc pc = .ok (.invokevirtual 18, 3)) (kk : G E N nL p l e R s m args below meth c cells slots Q I2 F2 (pc + 3) ls (v :: st)) : G E N nL p l e R s m args below meth c cells slots Q I F pc ls (.int a3 :: .int a2 :: .int a1 :: .int a0 :: rf E k :: st) := g_callV C (M := mX4_build) (As := [.int a0, .int a1, .int a2, .int a3]) (rest := st) (N2 := N) hM lmL_18 vX4_build (q := 4) (CN := RX4) (T := TX4) (nf := 8) rfl (by decide) rfl h0 viX4_build vsX4_build hfit rfl rfl rfl hcat (Or.inl (Nat.lt_of_le_of_lt (Nat.zero_le _) h0.2)) d (fun r9 I9 F9 h9 => by obtain ⟨rfl, rfl, rfl⟩ := h9; exact kk)
theorem lmL_22 : Cond.methodLink RL 22 yX5_build ∈ gw := gw_of 661 (by decide +kernel) (by decide +kernel)
theorem kL_22 (C : Cx E RL cc nL p s m args meth c) {a0 : Int32} {a1 : Int32} {a2 : Int32} {a3 : Int32} {v : Value} {k : Nat} (h0 : ob N k 5) (hM : CtF l E mX5_build [rf E k, .int a0, .int a1, .int a2, .int a3] N I F N (some v) I2 F2) (hfit : Fits mX5_build R cells slots) (hcat : (st.map fun v => v.category).sum ≤ 8) (d : decode cc pc = .ok (.invokevirtual 22, 3)) (kk : G E N nL p l e R s m args below meth c cells slots Q I2 F2 (pc + 3) ls (v :: st)) : G E N nL p l e R s m args below meth c cells slots Q I F pc ls (.int a3 :: .int a2 :: .int a1 :: .int a0 :: rf E k :: st) := g_callV C (M := mX5_build) (As := [.int a0, .int a1, .int a2, .int a3]) (rest := st) (N2 := N) hM lmL_22 vX5_build (q := 5) (CN := RX5) (T := TX5) (nf := 16) rfl (by decide) rfl h0 viX5_build vsX5_build hfit rfl rfl rfl hcat (Or.inl (Nat.lt_of_le_of_lt (Nat.zero_le _) h0.2)) d (fun r9 I9 F9 h9 => by obtain ⟨rfl, rfl, rfl⟩ := h9; exact kk)
theorem lmL_23 : Cond.methodLink RL 23 yX4_read ∈ gw := gw_of 322 (by decide +kernel) (by decide +kernel)
theorem kL_23 (C : Cx E RL cc nL p s m args meth c)  {v : Value} {k : Nat} (h0 : ob N k 4) (hM : CtF l E mX4_read [rf E k] N I F N (some v) I2 F2) (hfit : Fits mX4_read R cells slots) (hcat : (st.map fun v => v.category).sum ≤ 8) (d : decode cc pc = .ok (.invokevirtual 23, 3)) (kk : G E N nL p l e R s m args below meth c cells slots Q I2 F2 (pc + 3) ls (v :: st)) : G E N nL p l e R s m args below meth c cells slots Q I F pc ls (rf E k :: st) := g_callV C (M := mX4_read) (As := []) (rest := st) (N2 := N) hM lmL_23 vX4_read (q := 4) (CN := RX4) (T := TX4) (nf := 8) rfl (by decide) rfl h0 viX4_read vsX4_read hfit rfl rfl rfl hcat (Or.inl (Nat.lt_of_le_of_lt (Nat.zero_le _) h0.2)) d (fun r9 I9 F9 h9 => by obtain ⟨rfl, rfl, rfl⟩ := h9; exact kk)
theorem lmL_27 : Cond.methodLink RL 27 yX5_read ∈ gw := gw_of 673 (by decide +kernel) (by decide +kernel)
theorem kL_27 (C : Cx E RL cc nL p s m args meth c)  {v : Value} {k : Nat} (h0 : ob N k 5) (hM : CtF l E mX5_read [rf E k] N I F N (some v) I2 F2) (hfit : Fits mX5_read R cells slots) (hcat : (st.map fun v => v.category).sum ≤ 8) (d : decode cc pc = .ok (.invokevirtual 27, 3)) (kk : G E N nL p l e R s m args below meth c cells slots Q I2 F2 (pc + 3) ls (v :: st)) : G E N nL p l e R s m args below meth c cells slots Q I F pc ls (rf E k :: st) := g_callV C (M := mX5_read) (As := []) (rest := st) (N2 := N) hM lmL_27 vX5_read (q := 5) (CN := RX5) (T := TX5) (nf := 16) rfl (by decide) rfl h0 viX5_read vsX5_read hfit rfl rfl rfl hcat (Or.inl (Nat.lt_of_le_of_lt (Nat.zero_le _) h0.2)) d (fun r9 I9 F9 h9 => by obtain ⟨rfl, rfl, rfl⟩ := h9; exact kk)
theorem lmL_28 : Cond.methodLink RL 28 yX4_link ∈ gw := gw_of 378 (by decide +kernel) (by decide +kernel)
theorem kL_28 (C : Cx E RL cc nL p s m args meth c) {a0 : Int32} {a1 : Int32} {a2 : Int32} {v : Value} {k : Nat} (h0 : ob N k 4) (hM : CtF l E mX4_link [rf E k, .int a0, .int a1, .int a2] N I F N (some v) I2 F2) (hfit : Fits mX4_link R cells slots) (hcat : (st.map fun v => v.category).sum ≤ 8) (d : decode cc pc = .ok (.invokevirtual 28, 3)) (kk : G E N nL p l e R s m args below meth c cells slots Q I2 F2 (pc + 3) ls (v :: st)) : G E N nL p l e R s m args below meth c cells slots Q I F pc ls (.int a2 :: .int a1 :: .int a0 :: rf E k :: st) := g_callV C (M := mX4_link) (As := [.int a0, .int a1, .int a2]) (rest := st) (N2 := N) hM lmL_28 vX4_link (q := 4) (CN := RX4) (T := TX4) (nf := 8) rfl (by decide) rfl h0 viX4_link vsX4_link hfit rfl rfl rfl hcat (Or.inl (Nat.lt_of_le_of_lt (Nat.zero_le _) h0.2)) d (fun r9 I9 F9 h9 => by obtain ⟨rfl, rfl, rfl⟩ := h9; exact kk)
theorem lmL_32 : Cond.methodLink RL 32 yX5_link ∈ gw := gw_of 705 (by decide +kernel) (by decide +kernel)
theorem kL_32 (C : Cx E RL cc nL p s m args meth c) {a0 : Int32} {a1 : Int32} {a2 : Int32} {v : Value} {k : Nat} (h0 : ob N k 5) (hM : CtF l E mX5_link [rf E k, .int a0, .int a1, .int a2] N I F N (some v) I2 F2) (hfit : Fits mX5_link R cells slots) (hcat : (st.map fun v => v.category).sum ≤ 8) (d : decode cc pc = .ok (.invokevirtual 32, 3)) (kk : G E N nL p l e R s m args below meth c cells slots Q I2 F2 (pc + 3) ls (v :: st)) : G E N nL p l e R s m args below meth c cells slots Q I F pc ls (.int a2 :: .int a1 :: .int a0 :: rf E k :: st) := g_callV C (M := mX5_link) (As := [.int a0, .int a1, .int a2]) (rest := st) (N2 := N) hM lmL_32 vX5_link (q := 5) (CN := RX5) (T := TX5) (nf := 16) rfl (by decide) rfl h0 viX5_link vsX5_link hfit rfl rfl rfl hcat (Or.inl (Nat.lt_of_le_of_lt (Nat.zero_le _) h0.2)) d (fun r9 I9 F9 h9 => by obtain ⟨rfl, rfl, rfl⟩ := h9; exact kk)
theorem lmL_33 : Cond.methodLink RL 33 yX4_value ∈ gw := gw_of 389 (by decide +kernel) (by decide +kernel)
theorem kL_33 (C : Cx E RL cc nL p s m args meth c) {a0 : Int32} {a1 : Int32} {v : Value} {k : Nat} (h0 : ob N k 4) (hM : CtF l E mX4_value [rf E k, .int a0, .int a1] N I F N (some v) I2 F2) (hfit : Fits mX4_value R cells slots) (hcat : (st.map fun v => v.category).sum ≤ 8) (d : decode cc pc = .ok (.invokevirtual 33, 3)) (kk : G E N nL p l e R s m args below meth c cells slots Q I2 F2 (pc + 3) ls (v :: st)) : G E N nL p l e R s m args below meth c cells slots Q I F pc ls (.int a1 :: .int a0 :: rf E k :: st) := g_callV C (M := mX4_value) (As := [.int a0, .int a1]) (rest := st) (N2 := N) hM lmL_33 vX4_value (q := 4) (CN := RX4) (T := TX4) (nf := 8) rfl (by decide) rfl h0 viX4_value vsX4_value hfit rfl rfl rfl hcat (Or.inl (Nat.lt_of_le_of_lt (Nat.zero_le _) h0.2)) d (fun r9 I9 F9 h9 => by obtain ⟨rfl, rfl, rfl⟩ := h9; exact kk)
theorem lmL_36 : Cond.methodLink RL 36 yX5_value ∈ gw := gw_of 721 (by decide +kernel) (by decide +kernel)
theorem kL_36 (C : Cx E RL cc nL p s m args meth c) {a0 : Int32} {a1 : Int32} {v : Value} {k : Nat} (h0 : ob N k 5) (hM : CtF l E mX5_value [rf E k, .int a0, .int a1] N I F N (some v) I2 F2) (hfit : Fits mX5_value R cells slots) (hcat : (st.map fun v => v.category).sum ≤ 8) (d : decode cc pc = .ok (.invokevirtual 36, 3)) (kk : G E N nL p l e R s m args below meth c cells slots Q I2 F2 (pc + 3) ls (v :: st)) : G E N nL p l e R s m args below meth c cells slots Q I F pc ls (.int a1 :: .int a0 :: rf E k :: st) := g_callV C (M := mX5_value) (As := [.int a0, .int a1]) (rest := st) (N2 := N) hM lmL_36 vX5_value (q := 5) (CN := RX5) (T := TX5) (nf := 16) rfl (by decide) rfl h0 viX5_value vsX5_value hfit rfl rfl rfl hcat (Or.inl (Nat.lt_of_le_of_lt (Nat.zero_le _) h0.2)) d (fun r9 I9 F9 h9 => by obtain ⟨rfl, rfl, rfl⟩ := h9; exact kk)
theorem lmL_37 : Cond.methodLink RL 37 yX4_sleep ∈ gw := gw_of 393 (by decide +kernel) (by decide +kernel)
theorem kL_37 (C : Cx E RL cc nL p s m args meth c) {a0 : Int32} {v : Value} {k : Nat} (h0 : ob N k 4) (hM : CtF l E mX4_sleep [rf E k, .int a0] N I F N (some v) I2 F2) (hfit : Fits mX4_sleep R cells slots) (hcat : (st.map fun v => v.category).sum ≤ 8) (d : decode cc pc = .ok (.invokevirtual 37, 3)) (kk : G E N nL p l e R s m args below meth c cells slots Q I2 F2 (pc + 3) ls (v :: st)) : G E N nL p l e R s m args below meth c cells slots Q I F pc ls (.int a0 :: rf E k :: st) := g_callV C (M := mX4_sleep) (As := [.int a0]) (rest := st) (N2 := N) hM lmL_37 vX4_sleep (q := 4) (CN := RX4) (T := TX4) (nf := 8) rfl (by decide) rfl h0 viX4_sleep vsX4_sleep hfit rfl rfl rfl hcat (Or.inl (Nat.lt_of_le_of_lt (Nat.zero_le _) h0.2)) d (fun r9 I9 F9 h9 => by obtain ⟨rfl, rfl, rfl⟩ := h9; exact kk)
theorem lmL_41 : Cond.methodLink RL 41 yX5_sleep ∈ gw := gw_of 729 (by decide +kernel) (by decide +kernel)
theorem kL_41 (C : Cx E RL cc nL p s m args meth c) {a0 : Int32} {v : Value} {k : Nat} (h0 : ob N k 5) (hM : CtF l E mX5_sleep [rf E k, .int a0] N I F N (some v) I2 F2) (hfit : Fits mX5_sleep R cells slots) (hcat : (st.map fun v => v.category).sum ≤ 8) (d : decode cc pc = .ok (.invokevirtual 41, 3)) (kk : G E N nL p l e R s m args below meth c cells slots Q I2 F2 (pc + 3) ls (v :: st)) : G E N nL p l e R s m args below meth c cells slots Q I F pc ls (.int a0 :: rf E k :: st) := g_callV C (M := mX5_sleep) (As := [.int a0]) (rest := st) (N2 := N) hM lmL_41 vX5_sleep (q := 5) (CN := RX5) (T := TX5) (nf := 16) rfl (by decide) rfl h0 viX5_sleep vsX5_sleep hfit rfl rfl rfl hcat (Or.inl (Nat.lt_of_le_of_lt (Nat.zero_le _) h0.2)) d (fun r9 I9 F9 h9 => by obtain ⟨rfl, rfl, rfl⟩ := h9; exact kk)
theorem lmL_42 : Cond.methodLink RL 42 yX4_wake ∈ gw := gw_of 412 (by decide +kernel) (by decide +kernel)
theorem kL_42 (C : Cx E RL cc nL p s m args meth c) {a0 : Int32} {v : Value} {k : Nat} (h0 : ob N k 4) (hM : CtF l E mX4_wake [rf E k, .int a0] N I F N (some v) I2 F2) (hfit : Fits mX4_wake R cells slots) (hcat : (st.map fun v => v.category).sum ≤ 8) (d : decode cc pc = .ok (.invokevirtual 42, 3)) (kk : G E N nL p l e R s m args below meth c cells slots Q I2 F2 (pc + 3) ls (v :: st)) : G E N nL p l e R s m args below meth c cells slots Q I F pc ls (.int a0 :: rf E k :: st) := g_callV C (M := mX4_wake) (As := [.int a0]) (rest := st) (N2 := N) hM lmL_42 vX4_wake (q := 4) (CN := RX4) (T := TX4) (nf := 8) rfl (by decide) rfl h0 viX4_wake vsX4_wake hfit rfl rfl rfl hcat (Or.inl (Nat.lt_of_le_of_lt (Nat.zero_le _) h0.2)) d (fun r9 I9 F9 h9 => by obtain ⟨rfl, rfl, rfl⟩ := h9; exact kk)
theorem lmL_45 : Cond.methodLink RL 45 yX5_wake ∈ gw := gw_of 748 (by decide +kernel) (by decide +kernel)
theorem kL_45 (C : Cx E RL cc nL p s m args meth c) {a0 : Int32} {v : Value} {k : Nat} (h0 : ob N k 5) (hM : CtF l E mX5_wake [rf E k, .int a0] N I F N (some v) I2 F2) (hfit : Fits mX5_wake R cells slots) (hcat : (st.map fun v => v.category).sum ≤ 8) (d : decode cc pc = .ok (.invokevirtual 45, 3)) (kk : G E N nL p l e R s m args below meth c cells slots Q I2 F2 (pc + 3) ls (v :: st)) : G E N nL p l e R s m args below meth c cells slots Q I F pc ls (.int a0 :: rf E k :: st) := g_callV C (M := mX5_wake) (As := [.int a0]) (rest := st) (N2 := N) hM lmL_45 vX5_wake (q := 5) (CN := RX5) (T := TX5) (nf := 16) rfl (by decide) rfl h0 viX5_wake vsX5_wake hfit rfl rfl rfl hcat (Or.inl (Nat.lt_of_le_of_lt (Nat.zero_le _) h0.2)) d (fun r9 I9 F9 h9 => by obtain ⟨rfl, rfl, rfl⟩ := h9; exact kk)
theorem lmL_46 : Cond.methodLink RL 46 yX4_pass ∈ gw := gw_of 420 (by decide +kernel) (by decide +kernel)
theorem kL_46 (C : Cx E RL cc nL p s m args meth c) {a0 : Int32} {v : Value} {k : Nat} (h0 : ob N k 4) (hM : CtF l E mX4_pass [rf E k, .int a0] N I F N (some v) I2 F2) (hfit : Fits mX4_pass R cells slots) (hcat : (st.map fun v => v.category).sum ≤ 8) (d : decode cc pc = .ok (.invokevirtual 46, 3)) (kk : G E N nL p l e R s m args below meth c cells slots Q I2 F2 (pc + 3) ls (v :: st)) : G E N nL p l e R s m args below meth c cells slots Q I F pc ls (.int a0 :: rf E k :: st) := g_callV C (M := mX4_pass) (As := [.int a0]) (rest := st) (N2 := N) hM lmL_46 vX4_pass (q := 4) (CN := RX4) (T := TX4) (nf := 8) rfl (by decide) rfl h0 viX4_pass vsX4_pass hfit rfl rfl rfl hcat (Or.inl (Nat.lt_of_le_of_lt (Nat.zero_le _) h0.2)) d (fun r9 I9 F9 h9 => by obtain ⟨rfl, rfl, rfl⟩ := h9; exact kk)
theorem lmL_49 : Cond.methodLink RL 49 yX5_pass ∈ gw := gw_of 756 (by decide +kernel) (by decide +kernel)
theorem kL_49 (C : Cx E RL cc nL p s m args meth c) {a0 : Int32} {v : Value} {k : Nat} (h0 : ob N k 5) (hM : CtF l E mX5_pass [rf E k, .int a0] N I F N (some v) I2 F2) (hfit : Fits mX5_pass R cells slots) (hcat : (st.map fun v => v.category).sum ≤ 8) (d : decode cc pc = .ok (.invokevirtual 49, 3)) (kk : G E N nL p l e R s m args below meth c cells slots Q I2 F2 (pc + 3) ls (v :: st)) : G E N nL p l e R s m args below meth c cells slots Q I F pc ls (.int a0 :: rf E k :: st) := g_callV C (M := mX5_pass) (As := [.int a0]) (rest := st) (N2 := N) hM lmL_49 vX5_pass (q := 5) (CN := RX5) (T := TX5) (nf := 16) rfl (by decide) rfl h0 viX5_pass vsX5_pass hfit rfl rfl rfl hcat (Or.inl (Nat.lt_of_le_of_lt (Nat.zero_le _) h0.2)) d (fun r9 I9 F9 h9 => by obtain ⟨rfl, rfl, rfl⟩ := h9; exact kk)
theorem lmL_50 : Cond.methodLink RL 50 yX4_of ∈ gw := gw_of 485 (by decide +kernel) (by decide +kernel)
theorem kL_50 (C : Cx E RL cc nL p s m args meth c) {a0 : Int32} {a1 : Int32} {v : Value} {k : Nat} (h0 : ob N k 4) (hM : CtF l E mX4_of [rf E k, .int a0, .int a1] N I F N (some v) I2 F2) (hfit : Fits mX4_of R cells slots) (hcat : (st.map fun v => v.category).sum ≤ 8) (d : decode cc pc = .ok (.invokevirtual 50, 3)) (kk : G E N nL p l e R s m args below meth c cells slots Q I2 F2 (pc + 3) ls (v :: st)) : G E N nL p l e R s m args below meth c cells slots Q I F pc ls (.int a1 :: .int a0 :: rf E k :: st) := g_callV C (M := mX4_of) (As := [.int a0, .int a1]) (rest := st) (N2 := N) hM lmL_50 vX4_of (q := 4) (CN := RX4) (T := TX4) (nf := 8) rfl (by decide) rfl h0 viX4_of vsX4_of hfit rfl rfl rfl hcat (Or.inl (Nat.lt_of_le_of_lt (Nat.zero_le _) h0.2)) d (fun r9 I9 F9 h9 => by obtain ⟨rfl, rfl, rfl⟩ := h9; exact kk)
theorem lmL_53 : Cond.methodLink RL 53 yX5_of ∈ gw := gw_of 800 (by decide +kernel) (by decide +kernel)
theorem kL_53 (C : Cx E RL cc nL p s m args meth c) {a0 : Int32} {a1 : Int32} {v : Value} {k : Nat} (h0 : ob N k 5) (hM : CtF l E mX5_of [rf E k, .int a0, .int a1] N I F N (some v) I2 F2) (hfit : Fits mX5_of R cells slots) (hcat : (st.map fun v => v.category).sum ≤ 8) (d : decode cc pc = .ok (.invokevirtual 53, 3)) (kk : G E N nL p l e R s m args below meth c cells slots Q I2 F2 (pc + 3) ls (v :: st)) : G E N nL p l e R s m args below meth c cells slots Q I F pc ls (.int a1 :: .int a0 :: rf E k :: st) := g_callV C (M := mX5_of) (As := [.int a0, .int a1]) (rest := st) (N2 := N) hM lmL_53 vX5_of (q := 5) (CN := RX5) (T := TX5) (nf := 16) rfl (by decide) rfl h0 viX5_of vsX5_of hfit rfl rfl rfl hcat (Or.inl (Nat.lt_of_le_of_lt (Nat.zero_le _) h0.2)) d (fun r9 I9 F9 h9 => by obtain ⟨rfl, rfl, rfl⟩ := h9; exact kk)
theorem lmL_54 : Cond.methodLink RL 54 yX4_count ∈ gw := gw_of 494 (by decide +kernel) (by decide +kernel)
theorem kL_54 (C : Cx E RL cc nL p s m args meth c) {a0 : Int32} {v : Value} {k : Nat} (h0 : ob N k 4) (hM : CtF l E mX4_count [rf E k, .int a0] N I F N (some v) I2 F2) (hfit : Fits mX4_count R cells slots) (hcat : (st.map fun v => v.category).sum ≤ 8) (d : decode cc pc = .ok (.invokevirtual 54, 3)) (kk : G E N nL p l e R s m args below meth c cells slots Q I2 F2 (pc + 3) ls (v :: st)) : G E N nL p l e R s m args below meth c cells slots Q I F pc ls (.int a0 :: rf E k :: st) := g_callV C (M := mX4_count) (As := [.int a0]) (rest := st) (N2 := N) hM lmL_54 vX4_count (q := 4) (CN := RX4) (T := TX4) (nf := 8) rfl (by decide) rfl h0 viX4_count vsX4_count hfit rfl rfl rfl hcat (Or.inl (Nat.lt_of_le_of_lt (Nat.zero_le _) h0.2)) d (fun r9 I9 F9 h9 => by obtain ⟨rfl, rfl, rfl⟩ := h9; exact kk)
theorem lmL_57 : Cond.methodLink RL 57 yX5_count ∈ gw := gw_of 808 (by decide +kernel) (by decide +kernel)
theorem kL_57 (C : Cx E RL cc nL p s m args meth c) {a0 : Int32} {v : Value} {k : Nat} (h0 : ob N k 5) (hM : CtF l E mX5_count [rf E k, .int a0] N I F N (some v) I2 F2) (hfit : Fits mX5_count R cells slots) (hcat : (st.map fun v => v.category).sum ≤ 8) (d : decode cc pc = .ok (.invokevirtual 57, 3)) (kk : G E N nL p l e R s m args below meth c cells slots Q I2 F2 (pc + 3) ls (v :: st)) : G E N nL p l e R s m args below meth c cells slots Q I F pc ls (.int a0 :: rf E k :: st) := g_callV C (M := mX5_count) (As := [.int a0]) (rest := st) (N2 := N) hM lmL_57 vX5_count (q := 5) (CN := RX5) (T := TX5) (nf := 16) rfl (by decide) rfl h0 viX5_count vsX5_count hfit rfl rfl rfl hcat (Or.inl (Nat.lt_of_le_of_lt (Nat.zero_le _) h0.2)) d (fun r9 I9 F9 h9 => by obtain ⟨rfl, rfl, rfl⟩ := h9; exact kk)
theorem lmL_58 : Cond.methodLink RL 58 yX4_waiting ∈ gw := gw_of 499 (by decide +kernel) (by decide +kernel)
theorem kL_58 (C : Cx E RL cc nL p s m args meth c) {a0 : Int32} {v : Value} {k : Nat} (h0 : ob N k 4) (hM : CtF l E mX4_waiting [rf E k, .int a0] N I F N (some v) I2 F2) (hfit : Fits mX4_waiting R cells slots) (hcat : (st.map fun v => v.category).sum ≤ 8) (d : decode cc pc = .ok (.invokevirtual 58, 3)) (kk : G E N nL p l e R s m args below meth c cells slots Q I2 F2 (pc + 3) ls (v :: st)) : G E N nL p l e R s m args below meth c cells slots Q I F pc ls (.int a0 :: rf E k :: st) := g_callV C (M := mX4_waiting) (As := [.int a0]) (rest := st) (N2 := N) hM lmL_58 vX4_waiting (q := 4) (CN := RX4) (T := TX4) (nf := 8) rfl (by decide) rfl h0 viX4_waiting vsX4_waiting hfit rfl rfl rfl hcat (Or.inl (Nat.lt_of_le_of_lt (Nat.zero_le _) h0.2)) d (fun r9 I9 F9 h9 => by obtain ⟨rfl, rfl, rfl⟩ := h9; exact kk)
theorem lmL_61 : Cond.methodLink RL 61 yX5_waiting ∈ gw := gw_of 812 (by decide +kernel) (by decide +kernel)
theorem kL_61 (C : Cx E RL cc nL p s m args meth c) {a0 : Int32} {v : Value} {k : Nat} (h0 : ob N k 5) (hM : CtF l E mX5_waiting [rf E k, .int a0] N I F N (some v) I2 F2) (hfit : Fits mX5_waiting R cells slots) (hcat : (st.map fun v => v.category).sum ≤ 8) (d : decode cc pc = .ok (.invokevirtual 61, 3)) (kk : G E N nL p l e R s m args below meth c cells slots Q I2 F2 (pc + 3) ls (v :: st)) : G E N nL p l e R s m args below meth c cells slots Q I F pc ls (.int a0 :: rf E k :: st) := g_callV C (M := mX5_waiting) (As := [.int a0]) (rest := st) (N2 := N) hM lmL_61 vX5_waiting (q := 5) (CN := RX5) (T := TX5) (nf := 16) rfl (by decide) rfl h0 viX5_waiting vsX5_waiting hfit rfl rfl rfl hcat (Or.inl (Nat.lt_of_le_of_lt (Nat.zero_le _) h0.2)) d (fun r9 I9 F9 h9 => by obtain ⟨rfl, rfl, rfl⟩ := h9; exact kk)
theorem lmL_62 : Cond.methodLink RL 62 yX4_ifPassed ∈ gw := gw_of 507 (by decide +kernel) (by decide +kernel)
theorem kL_62 (C : Cx E RL cc nL p s m args meth c) {a0 : Int32} {a1 : Int32} {v : Value} {k : Nat} (h0 : ob N k 4) (hM : CtF l E mX4_ifPassed [rf E k, .int a0, .int a1] N I F N (some v) I2 F2) (hfit : Fits mX4_ifPassed R cells slots) (hcat : (st.map fun v => v.category).sum ≤ 8) (d : decode cc pc = .ok (.invokevirtual 62, 3)) (kk : G E N nL p l e R s m args below meth c cells slots Q I2 F2 (pc + 3) ls (v :: st)) : G E N nL p l e R s m args below meth c cells slots Q I F pc ls (.int a1 :: .int a0 :: rf E k :: st) := g_callV C (M := mX4_ifPassed) (As := [.int a0, .int a1]) (rest := st) (N2 := N) hM lmL_62 vX4_ifPassed (q := 4) (CN := RX4) (T := TX4) (nf := 8) rfl (by decide) rfl h0 viX4_ifPassed vsX4_ifPassed hfit rfl rfl rfl hcat (Or.inl (Nat.lt_of_le_of_lt (Nat.zero_le _) h0.2)) d (fun r9 I9 F9 h9 => by obtain ⟨rfl, rfl, rfl⟩ := h9; exact kk)
theorem lmL_65 : Cond.methodLink RL 65 yX5_ifPassed ∈ gw := gw_of 816 (by decide +kernel) (by decide +kernel)
theorem kL_65 (C : Cx E RL cc nL p s m args meth c) {a0 : Int32} {a1 : Int32} {v : Value} {k : Nat} (h0 : ob N k 5) (hM : CtF l E mX5_ifPassed [rf E k, .int a0, .int a1] N I F N (some v) I2 F2) (hfit : Fits mX5_ifPassed R cells slots) (hcat : (st.map fun v => v.category).sum ≤ 8) (d : decode cc pc = .ok (.invokevirtual 65, 3)) (kk : G E N nL p l e R s m args below meth c cells slots Q I2 F2 (pc + 3) ls (v :: st)) : G E N nL p l e R s m args below meth c cells slots Q I F pc ls (.int a1 :: .int a0 :: rf E k :: st) := g_callV C (M := mX5_ifPassed) (As := [.int a0, .int a1]) (rest := st) (N2 := N) hM lmL_65 vX5_ifPassed (q := 5) (CN := RX5) (T := TX5) (nf := 16) rfl (by decide) rfl h0 viX5_ifPassed vsX5_ifPassed hfit rfl rfl rfl hcat (Or.inl (Nat.lt_of_le_of_lt (Nat.zero_le _) h0.2)) d (fun r9 I9 F9 h9 => by obtain ⟨rfl, rfl, rfl⟩ := h9; exact kk)
theorem lmL_66 : Cond.methodLink RL 66 yX4_allAwake ∈ gw := gw_of 515 (by decide +kernel) (by decide +kernel)
theorem kL_66 (C : Cx E RL cc nL p s m args meth c)  {v : Value} {k : Nat} (h0 : ob N k 4) (hM : CtF l E mX4_allAwake [rf E k] N I F N (some v) I2 F2) (hfit : Fits mX4_allAwake R cells slots) (hcat : (st.map fun v => v.category).sum ≤ 8) (d : decode cc pc = .ok (.invokevirtual 66, 3)) (kk : G E N nL p l e R s m args below meth c cells slots Q I2 F2 (pc + 3) ls (v :: st)) : G E N nL p l e R s m args below meth c cells slots Q I F pc ls (rf E k :: st) := g_callV C (M := mX4_allAwake) (As := []) (rest := st) (N2 := N) hM lmL_66 vX4_allAwake (q := 4) (CN := RX4) (T := TX4) (nf := 8) rfl (by decide) rfl h0 viX4_allAwake vsX4_allAwake hfit rfl rfl rfl hcat (Or.inl (Nat.lt_of_le_of_lt (Nat.zero_le _) h0.2)) d (fun r9 I9 F9 h9 => by obtain ⟨rfl, rfl, rfl⟩ := h9; exact kk)
theorem lmL_69 : Cond.methodLink RL 69 yX5_allAwake ∈ gw := gw_of 824 (by decide +kernel) (by decide +kernel)
theorem kL_69 (C : Cx E RL cc nL p s m args meth c)  {v : Value} {k : Nat} (h0 : ob N k 5) (hM : CtF l E mX5_allAwake [rf E k] N I F N (some v) I2 F2) (hfit : Fits mX5_allAwake R cells slots) (hcat : (st.map fun v => v.category).sum ≤ 8) (d : decode cc pc = .ok (.invokevirtual 69, 3)) (kk : G E N nL p l e R s m args below meth c cells slots Q I2 F2 (pc + 3) ls (v :: st)) : G E N nL p l e R s m args below meth c cells slots Q I F pc ls (rf E k :: st) := g_callV C (M := mX5_allAwake) (As := []) (rest := st) (N2 := N) hM lmL_69 vX5_allAwake (q := 5) (CN := RX5) (T := TX5) (nf := 16) rfl (by decide) rfl h0 viX5_allAwake vsX5_allAwake hfit rfl rfl rfl hcat (Or.inl (Nat.lt_of_le_of_lt (Nat.zero_le _) h0.2)) d (fun r9 I9 F9 h9 => by obtain ⟨rfl, rfl, rfl⟩ := h9; exact kk)
theorem lmL_70 : Cond.methodLink RL 70 yX4_leastCurrent ∈ gw := gw_of 537 (by decide +kernel) (by decide +kernel)
theorem kL_70 (C : Cx E RL cc nL p s m args meth c) {a0 : Int32} {v : Value} {k : Nat} (h0 : ob N k 4) (hM : CtF l E mX4_leastCurrent [rf E k, .int a0] N I F N (some v) I2 F2) (hfit : Fits mX4_leastCurrent R cells slots) (hcat : (st.map fun v => v.category).sum ≤ 8) (d : decode cc pc = .ok (.invokevirtual 70, 3)) (kk : G E N nL p l e R s m args below meth c cells slots Q I2 F2 (pc + 3) ls (v :: st)) : G E N nL p l e R s m args below meth c cells slots Q I F pc ls (.int a0 :: rf E k :: st) := g_callV C (M := mX4_leastCurrent) (As := [.int a0]) (rest := st) (N2 := N) hM lmL_70 vX4_leastCurrent (q := 4) (CN := RX4) (T := TX4) (nf := 8) rfl (by decide) rfl h0 viX4_leastCurrent vsX4_leastCurrent hfit rfl rfl rfl hcat (Or.inl (Nat.lt_of_le_of_lt (Nat.zero_le _) h0.2)) d (fun r9 I9 F9 h9 => by obtain ⟨rfl, rfl, rfl⟩ := h9; exact kk)
theorem lmL_73 : Cond.methodLink RL 73 yX5_leastCurrent ∈ gw := gw_of 836 (by decide +kernel) (by decide +kernel)
theorem kL_73 (C : Cx E RL cc nL p s m args meth c) {a0 : Int32} {v : Value} {k : Nat} (h0 : ob N k 5) (hM : CtF l E mX5_leastCurrent [rf E k, .int a0] N I F N (some v) I2 F2) (hfit : Fits mX5_leastCurrent R cells slots) (hcat : (st.map fun v => v.category).sum ≤ 8) (d : decode cc pc = .ok (.invokevirtual 73, 3)) (kk : G E N nL p l e R s m args below meth c cells slots Q I2 F2 (pc + 3) ls (v :: st)) : G E N nL p l e R s m args below meth c cells slots Q I F pc ls (.int a0 :: rf E k :: st) := g_callV C (M := mX5_leastCurrent) (As := [.int a0]) (rest := st) (N2 := N) hM lmL_73 vX5_leastCurrent (q := 5) (CN := RX5) (T := TX5) (nf := 16) rfl (by decide) rfl h0 viX5_leastCurrent vsX5_leastCurrent hfit rfl rfl rfl hcat (Or.inl (Nat.lt_of_le_of_lt (Nat.zero_le _) h0.2)) d (fun r9 I9 F9 h9 => by obtain ⟨rfl, rfl, rfl⟩ := h9; exact kk)
theorem lmL_74 : Cond.methodLink RL 74 yX4_quiet ∈ gw := gw_of 541 (by decide +kernel) (by decide +kernel)
theorem kL_74 (C : Cx E RL cc nL p s m args meth c) {a0 : Int32} {v : Value} {k : Nat} (h0 : ob N k 4) (hM : CtF l E mX4_quiet [rf E k, .int a0] N I F N (some v) I2 F2) (hfit : Fits mX4_quiet R cells slots) (hcat : (st.map fun v => v.category).sum ≤ 8) (d : decode cc pc = .ok (.invokevirtual 74, 3)) (kk : G E N nL p l e R s m args below meth c cells slots Q I2 F2 (pc + 3) ls (v :: st)) : G E N nL p l e R s m args below meth c cells slots Q I F pc ls (.int a0 :: rf E k :: st) := g_callV C (M := mX4_quiet) (As := [.int a0]) (rest := st) (N2 := N) hM lmL_74 vX4_quiet (q := 4) (CN := RX4) (T := TX4) (nf := 8) rfl (by decide) rfl h0 viX4_quiet vsX4_quiet hfit rfl rfl rfl hcat (Or.inl (Nat.lt_of_le_of_lt (Nat.zero_le _) h0.2)) d (fun r9 I9 F9 h9 => by obtain ⟨rfl, rfl, rfl⟩ := h9; exact kk)
theorem lmL_77 : Cond.methodLink RL 77 yX5_quiet ∈ gw := gw_of 840 (by decide +kernel) (by decide +kernel)
theorem kL_77 (C : Cx E RL cc nL p s m args meth c) {a0 : Int32} {v : Value} {k : Nat} (h0 : ob N k 5) (hM : CtF l E mX5_quiet [rf E k, .int a0] N I F N (some v) I2 F2) (hfit : Fits mX5_quiet R cells slots) (hcat : (st.map fun v => v.category).sum ≤ 8) (d : decode cc pc = .ok (.invokevirtual 77, 3)) (kk : G E N nL p l e R s m args below meth c cells slots Q I2 F2 (pc + 3) ls (v :: st)) : G E N nL p l e R s m args below meth c cells slots Q I F pc ls (.int a0 :: rf E k :: st) := g_callV C (M := mX5_quiet) (As := [.int a0]) (rest := st) (N2 := N) hM lmL_77 vX5_quiet (q := 5) (CN := RX5) (T := TX5) (nf := 16) rfl (by decide) rfl h0 viX5_quiet vsX5_quiet hfit rfl rfl rfl hcat (Or.inl (Nat.lt_of_le_of_lt (Nat.zero_le _) h0.2)) d (fun r9 I9 F9 h9 => by obtain ⟨rfl, rfl, rfl⟩ := h9; exact kk)
theorem lmL_80 : Cond.methodLink RL 80 yX4_put ∈ gw := gw_of 549 (by decide +kernel) (by decide +kernel)
theorem kL_80 (C : Cx E RL cc nL p s m args meth c) {a0 : Int64} {v : Value} {k : Nat} (h0 : ob N k 4) (hM : CtF l E mX4_put [rf E k, .long a0] N I F N (some v) I2 F2) (hfit : Fits mX4_put R cells slots) (hcat : (st.map fun v => v.category).sum ≤ 8) (d : decode cc pc = .ok (.invokevirtual 80, 3)) (kk : G E N nL p l e R s m args below meth c cells slots Q I2 F2 (pc + 3) ls (v :: st)) : G E N nL p l e R s m args below meth c cells slots Q I F pc ls (.long a0 :: rf E k :: st) := g_callV C (M := mX4_put) (As := [.long a0]) (rest := st) (N2 := N) hM lmL_80 vX4_put (q := 4) (CN := RX4) (T := TX4) (nf := 8) rfl (by decide) rfl h0 viX4_put vsX4_put hfit rfl rfl rfl hcat (Or.inl (Nat.lt_of_le_of_lt (Nat.zero_le _) h0.2)) d (fun r9 I9 F9 h9 => by obtain ⟨rfl, rfl, rfl⟩ := h9; exact kk)
theorem lmL_84 : Cond.methodLink RL 84 yX5_put ∈ gw := gw_of 844 (by decide +kernel) (by decide +kernel)
theorem kL_84 (C : Cx E RL cc nL p s m args meth c) {a0 : Int64} {v : Value} {k : Nat} (h0 : ob N k 5) (hM : CtF l E mX5_put [rf E k, .long a0] N I F N (some v) I2 F2) (hfit : Fits mX5_put R cells slots) (hcat : (st.map fun v => v.category).sum ≤ 8) (d : decode cc pc = .ok (.invokevirtual 84, 3)) (kk : G E N nL p l e R s m args below meth c cells slots Q I2 F2 (pc + 3) ls (v :: st)) : G E N nL p l e R s m args below meth c cells slots Q I F pc ls (.long a0 :: rf E k :: st) := g_callV C (M := mX5_put) (As := [.long a0]) (rest := st) (N2 := N) hM lmL_84 vX5_put (q := 5) (CN := RX5) (T := TX5) (nf := 16) rfl (by decide) rfl h0 viX5_put vsX5_put hfit rfl rfl rfl hcat (Or.inl (Nat.lt_of_le_of_lt (Nat.zero_le _) h0.2)) d (fun r9 I9 F9 h9 => by obtain ⟨rfl, rfl, rfl⟩ := h9; exact kk)
theorem lmL_85 : Cond.methodLink RL 85 yX4_wipe ∈ gw := gw_of 561 (by decide +kernel) (by decide +kernel)
theorem kL_85 (C : Cx E RL cc nL p s m args meth c)  {v : Value} {k : Nat} (h0 : ob N k 4) (hM : CtF l E mX4_wipe [rf E k] N I F N (some v) I2 F2) (hfit : Fits mX4_wipe R cells slots) (hcat : (st.map fun v => v.category).sum ≤ 8) (d : decode cc pc = .ok (.invokevirtual 85, 3)) (kk : G E N nL p l e R s m args below meth c cells slots Q I2 F2 (pc + 3) ls (v :: st)) : G E N nL p l e R s m args below meth c cells slots Q I F pc ls (rf E k :: st) := g_callV C (M := mX4_wipe) (As := []) (rest := st) (N2 := N) hM lmL_85 vX4_wipe (q := 4) (CN := RX4) (T := TX4) (nf := 8) rfl (by decide) rfl h0 viX4_wipe vsX4_wipe hfit rfl rfl rfl hcat (Or.inl (Nat.lt_of_le_of_lt (Nat.zero_le _) h0.2)) d (fun r9 I9 F9 h9 => by obtain ⟨rfl, rfl, rfl⟩ := h9; exact kk)
theorem lmL_88 : Cond.methodLink RL 88 yX5_wipe ∈ gw := gw_of 849 (by decide +kernel) (by decide +kernel)
theorem kL_88 (C : Cx E RL cc nL p s m args meth c)  {v : Value} {k : Nat} (h0 : ob N k 5) (hM : CtF l E mX5_wipe [rf E k] N I F N (some v) I2 F2) (hfit : Fits mX5_wipe R cells slots) (hcat : (st.map fun v => v.category).sum ≤ 8) (d : decode cc pc = .ok (.invokevirtual 88, 3)) (kk : G E N nL p l e R s m args below meth c cells slots Q I2 F2 (pc + 3) ls (v :: st)) : G E N nL p l e R s m args below meth c cells slots Q I F pc ls (rf E k :: st) := g_callV C (M := mX5_wipe) (As := []) (rest := st) (N2 := N) hM lmL_88 vX5_wipe (q := 5) (CN := RX5) (T := TX5) (nf := 16) rfl (by decide) rfl h0 viX5_wipe vsX5_wipe hfit rfl rfl rfl hcat (Or.inl (Nat.lt_of_le_of_lt (Nat.zero_le _) h0.2)) d (fun r9 I9 F9 h9 => by obtain ⟨rfl, rfl, rfl⟩ := h9; exact kk)
theorem lmL_89 : Cond.methodLink RL 89 yX4_fault ∈ gw := gw_of 565 (by decide +kernel) (by decide +kernel)
theorem kL_89 (C : Cx E RL cc nL p s m args meth c)  {v : Value} {k : Nat} (h0 : ob N k 4) (hM : CtF l E mX4_fault [rf E k] N I F N (some v) I2 F2) (hfit : Fits mX4_fault R cells slots) (hcat : (st.map fun v => v.category).sum ≤ 8) (d : decode cc pc = .ok (.invokevirtual 89, 3)) (kk : G E N nL p l e R s m args below meth c cells slots Q I2 F2 (pc + 3) ls (v :: st)) : G E N nL p l e R s m args below meth c cells slots Q I F pc ls (rf E k :: st) := g_callV C (M := mX4_fault) (As := []) (rest := st) (N2 := N) hM lmL_89 vX4_fault (q := 4) (CN := RX4) (T := TX4) (nf := 8) rfl (by decide) rfl h0 viX4_fault vsX4_fault hfit rfl rfl rfl hcat (Or.inl (Nat.lt_of_le_of_lt (Nat.zero_le _) h0.2)) d (fun r9 I9 F9 h9 => by obtain ⟨rfl, rfl, rfl⟩ := h9; exact kk)
theorem lmL_92 : Cond.methodLink RL 92 yX5_fault ∈ gw := gw_of 853 (by decide +kernel) (by decide +kernel)
theorem kL_92 (C : Cx E RL cc nL p s m args meth c)  {v : Value} {k : Nat} (h0 : ob N k 5) (hM : CtF l E mX5_fault [rf E k] N I F N (some v) I2 F2) (hfit : Fits mX5_fault R cells slots) (hcat : (st.map fun v => v.category).sum ≤ 8) (d : decode cc pc = .ok (.invokevirtual 92, 3)) (kk : G E N nL p l e R s m args below meth c cells slots Q I2 F2 (pc + 3) ls (v :: st)) : G E N nL p l e R s m args below meth c cells slots Q I F pc ls (rf E k :: st) := g_callV C (M := mX5_fault) (As := []) (rest := st) (N2 := N) hM lmL_92 vX5_fault (q := 5) (CN := RX5) (T := TX5) (nf := 16) rfl (by decide) rfl h0 viX5_fault vsX5_fault hfit rfl rfl rfl hcat (Or.inl (Nat.lt_of_le_of_lt (Nat.zero_le _) h0.2)) d (fun r9 I9 F9 h9 => by obtain ⟨rfl, rfl, rfl⟩ := h9; exact kk)
theorem lmL_93 : Cond.methodLink RL 93 yX4_undo ∈ gw := gw_of 569 (by decide +kernel) (by decide +kernel)
theorem kL_93 (C : Cx E RL cc nL p s m args meth c)  {v : Value} {k : Nat} (h0 : ob N k 4) (hM : CtF l E mX4_undo [rf E k] N I F N (some v) I2 F2) (hfit : Fits mX4_undo R cells slots) (hcat : (st.map fun v => v.category).sum ≤ 8) (d : decode cc pc = .ok (.invokevirtual 93, 3)) (kk : G E N nL p l e R s m args below meth c cells slots Q I2 F2 (pc + 3) ls (v :: st)) : G E N nL p l e R s m args below meth c cells slots Q I F pc ls (rf E k :: st) := g_callV C (M := mX4_undo) (As := []) (rest := st) (N2 := N) hM lmL_93 vX4_undo (q := 4) (CN := RX4) (T := TX4) (nf := 8) rfl (by decide) rfl h0 viX4_undo vsX4_undo hfit rfl rfl rfl hcat (Or.inl (Nat.lt_of_le_of_lt (Nat.zero_le _) h0.2)) d (fun r9 I9 F9 h9 => by obtain ⟨rfl, rfl, rfl⟩ := h9; exact kk)
theorem lmL_96 : Cond.methodLink RL 96 yX5_undo ∈ gw := gw_of 857 (by decide +kernel) (by decide +kernel)
theorem kL_96 (C : Cx E RL cc nL p s m args meth c)  {v : Value} {k : Nat} (h0 : ob N k 5) (hM : CtF l E mX5_undo [rf E k] N I F N (some v) I2 F2) (hfit : Fits mX5_undo R cells slots) (hcat : (st.map fun v => v.category).sum ≤ 8) (d : decode cc pc = .ok (.invokevirtual 96, 3)) (kk : G E N nL p l e R s m args below meth c cells slots Q I2 F2 (pc + 3) ls (v :: st)) : G E N nL p l e R s m args below meth c cells slots Q I F pc ls (rf E k :: st) := g_callV C (M := mX5_undo) (As := []) (rest := st) (N2 := N) hM lmL_96 vX5_undo (q := 5) (CN := RX5) (T := TX5) (nf := 16) rfl (by decide) rfl h0 viX5_undo vsX5_undo hfit rfl rfl rfl hcat (Or.inl (Nat.lt_of_le_of_lt (Nat.zero_le _) h0.2)) d (fun r9 I9 F9 h9 => by obtain ⟨rfl, rfl, rfl⟩ := h9; exact kk)
theorem lmL_97 : Cond.methodLink RL 97 yX4_save ∈ gw := gw_of 577 (by decide +kernel) (by decide +kernel)
theorem kL_97 (C : Cx E RL cc nL p s m args meth c) {a0 : Int32} {v : Value} {k : Nat} (h0 : ob N k 4) (hM : CtF l E mX4_save [rf E k, .int a0] N I F N (some v) I2 F2) (hfit : Fits mX4_save R cells slots) (hcat : (st.map fun v => v.category).sum ≤ 8) (d : decode cc pc = .ok (.invokevirtual 97, 3)) (kk : G E N nL p l e R s m args below meth c cells slots Q I2 F2 (pc + 3) ls (v :: st)) : G E N nL p l e R s m args below meth c cells slots Q I F pc ls (.int a0 :: rf E k :: st) := g_callV C (M := mX4_save) (As := [.int a0]) (rest := st) (N2 := N) hM lmL_97 vX4_save (q := 4) (CN := RX4) (T := TX4) (nf := 8) rfl (by decide) rfl h0 viX4_save vsX4_save hfit rfl rfl rfl hcat (Or.inl (Nat.lt_of_le_of_lt (Nat.zero_le _) h0.2)) d (fun r9 I9 F9 h9 => by obtain ⟨rfl, rfl, rfl⟩ := h9; exact kk)
theorem lmL_100 : Cond.methodLink RL 100 yX5_save ∈ gw := gw_of 861 (by decide +kernel) (by decide +kernel)
theorem kL_100 (C : Cx E RL cc nL p s m args meth c) {a0 : Int32} {v : Value} {k : Nat} (h0 : ob N k 5) (hM : CtF l E mX5_save [rf E k, .int a0] N I F N (some v) I2 F2) (hfit : Fits mX5_save R cells slots) (hcat : (st.map fun v => v.category).sum ≤ 8) (d : decode cc pc = .ok (.invokevirtual 100, 3)) (kk : G E N nL p l e R s m args below meth c cells slots Q I2 F2 (pc + 3) ls (v :: st)) : G E N nL p l e R s m args below meth c cells slots Q I F pc ls (.int a0 :: rf E k :: st) := g_callV C (M := mX5_save) (As := [.int a0]) (rest := st) (N2 := N) hM lmL_100 vX5_save (q := 5) (CN := RX5) (T := TX5) (nf := 16) rfl (by decide) rfl h0 viX5_save vsX5_save hfit rfl rfl rfl hcat (Or.inl (Nat.lt_of_le_of_lt (Nat.zero_le _) h0.2)) d (fun r9 I9 F9 h9 => by obtain ⟨rfl, rfl, rfl⟩ := h9; exact kk)
theorem lmL_101 : Cond.methodLink RL 101 yX4_restore ∈ gw := gw_of 585 (by decide +kernel) (by decide +kernel)
theorem kL_101 (C : Cx E RL cc nL p s m args meth c) {a0 : Int32} {v : Value} {k : Nat} (h0 : ob N k 4) (hM : CtF l E mX4_restore [rf E k, .int a0] N I F N (some v) I2 F2) (hfit : Fits mX4_restore R cells slots) (hcat : (st.map fun v => v.category).sum ≤ 8) (d : decode cc pc = .ok (.invokevirtual 101, 3)) (kk : G E N nL p l e R s m args below meth c cells slots Q I2 F2 (pc + 3) ls (v :: st)) : G E N nL p l e R s m args below meth c cells slots Q I F pc ls (.int a0 :: rf E k :: st) := g_callV C (M := mX4_restore) (As := [.int a0]) (rest := st) (N2 := N) hM lmL_101 vX4_restore (q := 4) (CN := RX4) (T := TX4) (nf := 8) rfl (by decide) rfl h0 viX4_restore vsX4_restore hfit rfl rfl rfl hcat (Or.inl (Nat.lt_of_le_of_lt (Nat.zero_le _) h0.2)) d (fun r9 I9 F9 h9 => by obtain ⟨rfl, rfl, rfl⟩ := h9; exact kk)
theorem lmL_104 : Cond.methodLink RL 104 yX5_restore ∈ gw := gw_of 865 (by decide +kernel) (by decide +kernel)
theorem kL_104 (C : Cx E RL cc nL p s m args meth c) {a0 : Int32} {v : Value} {k : Nat} (h0 : ob N k 5) (hM : CtF l E mX5_restore [rf E k, .int a0] N I F N (some v) I2 F2) (hfit : Fits mX5_restore R cells slots) (hcat : (st.map fun v => v.category).sum ≤ 8) (d : decode cc pc = .ok (.invokevirtual 104, 3)) (kk : G E N nL p l e R s m args below meth c cells slots Q I2 F2 (pc + 3) ls (v :: st)) : G E N nL p l e R s m args below meth c cells slots Q I F pc ls (.int a0 :: rf E k :: st) := g_callV C (M := mX5_restore) (As := [.int a0]) (rest := st) (N2 := N) hM lmL_104 vX5_restore (q := 5) (CN := RX5) (T := TX5) (nf := 16) rfl (by decide) rfl h0 viX5_restore vsX5_restore hfit rfl rfl rfl hcat (Or.inl (Nat.lt_of_le_of_lt (Nat.zero_le _) h0.2)) d (fun r9 I9 F9 h9 => by obtain ⟨rfl, rfl, rfl⟩ := h9; exact kk)
theorem lmX5_38 : Cond.methodLink RX5 38 yX5_moves ∈ gw := gw_of 658 (by decide +kernel) (by decide +kernel)
theorem kX5_38 (C : Cx E RX5 cc nL p s m args meth c) {a0 : Nat} {a1 : Int32} {a2 : Nat} {a3 : Int32} (h0 : 0 < N) (hM : CtF l E mX5_moves [rf E a0, .int a1, rf E a2, .int a3] N I F N none I2 F2) (hfit : Fits mX5_moves R cells slots) (hcat : (st.map fun v => v.category).sum ≤ 8) (d : decode cc pc = .ok (.invokestatic 38, 3)) (kk : G E N nL p l e R s m args below meth c cells slots Q I2 F2 (pc + 3) ls st) : G E N nL p l e R s m args below meth c cells slots Q I F pc ls (.int a3 :: rf E a2 :: .int a1 :: rf E a0 :: st) := g_callS C (M := mX5_moves) (As := [rf E a0, .int a1, rf E a2, .int a3]) (rest := st) (N2 := N) hM lmX5_38 vX5_moves vtX5_moves hfit rfl rfl rfl hcat (Or.inl h0) d (fun r9 I9 F9 h9 => by obtain ⟨rfl, rfl, rfl⟩ := h9; exact kk)
theorem lmX5_42 : Cond.methodLink RX5 42 yX5_within ∈ gw := gw_of 651 (by decide +kernel) (by decide +kernel)
theorem kX5_42 (C : Cx E RX5 cc nL p s m args meth c) {a0 : Int32} {a1 : Int32} {a2 : Int32} {v : Value} (h0 : 0 < N) (hM : CtF l E mX5_within [.int a0, .int a1, .int a2] N I F N (some v) I2 F2) (hfit : Fits mX5_within R cells slots) (hcat : (st.map fun v => v.category).sum ≤ 8) (d : decode cc pc = .ok (.invokestatic 42, 3)) (kk : G E N nL p l e R s m args below meth c cells slots Q I2 F2 (pc + 3) ls (v :: st)) : G E N nL p l e R s m args below meth c cells slots Q I F pc ls (.int a2 :: .int a1 :: .int a0 :: st) := g_callS C (M := mX5_within) (As := [.int a0, .int a1, .int a2]) (rest := st) (N2 := N) hM lmX5_42 vX5_within vtX5_within hfit rfl rfl rfl hcat (Or.inl h0) d (fun r9 I9 F9 h9 => by obtain ⟨rfl, rfl, rfl⟩ := h9; exact kk)
theorem lmX5_46 : Cond.methodLink RX5 46 yX5_part ∈ gw := gw_of 717 (by decide +kernel) (by decide +kernel)
theorem kX5_46 (C : Cx E RX5 cc nL p s m args meth c) {a0 : Int32} {a1 : Int32} {v : Value} {k : Nat} (h0 : ob N k 5) (hM : CtF l E mX5_part [rf E k, .int a0, .int a1] N I F N (some v) I2 F2) (hfit : Fits mX5_part R cells slots) (hcat : (st.map fun v => v.category).sum ≤ 8) (d : decode cc pc = .ok (.invokevirtual 46, 3)) (kk : G E N nL p l e R s m args below meth c cells slots Q I2 F2 (pc + 3) ls (v :: st)) : G E N nL p l e R s m args below meth c cells slots Q I F pc ls (.int a1 :: .int a0 :: rf E k :: st) := g_callV C (M := mX5_part) (As := [.int a0, .int a1]) (rest := st) (N2 := N) hM lmX5_46 vX5_part (q := 5) (CN := RX5) (T := TX5) (nf := 16) rfl (by decide) rfl h0 viX5_part vsX5_part hfit rfl rfl rfl hcat (Or.inl (Nat.lt_of_le_of_lt (Nat.zero_le _) h0.2)) d (fun r9 I9 F9 h9 => by obtain ⟨rfl, rfl, rfl⟩ := h9; exact kk)
theorem lmX5_50 : Cond.methodLink RX5 50 yX5_is ∈ gw := gw_of 725 (by decide +kernel) (by decide +kernel)
theorem kX5_50 (C : Cx E RX5 cc nL p s m args meth c) {a0 : Int32} {a1 : Int32} {v : Value} {k : Nat} (h0 : ob N k 5) (hM : CtF l E mX5_is [rf E k, .int a0, .int a1] N I F N (some v) I2 F2) (hfit : Fits mX5_is R cells slots) (hcat : (st.map fun v => v.category).sum ≤ 8) (d : decode cc pc = .ok (.invokevirtual 50, 3)) (kk : G E N nL p l e R s m args below meth c cells slots Q I2 F2 (pc + 3) ls (v :: st)) : G E N nL p l e R s m args below meth c cells slots Q I F pc ls (.int a1 :: .int a0 :: rf E k :: st) := g_callV C (M := mX5_is) (As := [.int a0, .int a1]) (rest := st) (N2 := N) hM lmX5_50 vX5_is (q := 5) (CN := RX5) (T := TX5) (nf := 16) rfl (by decide) rfl h0 viX5_is vsX5_is hfit rfl rfl rfl hcat (Or.inl (Nat.lt_of_le_of_lt (Nat.zero_le _) h0.2)) d (fun r9 I9 F9 h9 => by obtain ⟨rfl, rfl, rfl⟩ := h9; exact kk)
theorem lmX5_54 : Cond.methodLink RX5 54 yX5_isSure ∈ gw := gw_of 776 (by decide +kernel) (by decide +kernel)
theorem kX5_54 (C : Cx E RX5 cc nL p s m args meth c) {a0 : Int32} {v : Value} {k : Nat} (h0 : ob N k 5) (hM : CtF l E mX5_isSure [rf E k, .int a0] N I F N (some v) I2 F2) (hfit : Fits mX5_isSure R cells slots) (hcat : (st.map fun v => v.category).sum ≤ 8) (d : decode cc pc = .ok (.invokevirtual 54, 3)) (kk : G E N nL p l e R s m args below meth c cells slots Q I2 F2 (pc + 3) ls (v :: st)) : G E N nL p l e R s m args below meth c cells slots Q I F pc ls (.int a0 :: rf E k :: st) := g_callV C (M := mX5_isSure) (As := [.int a0]) (rest := st) (N2 := N) hM lmX5_54 vX5_isSure (q := 5) (CN := RX5) (T := TX5) (nf := 16) rfl (by decide) rfl h0 viX5_isSure vsX5_isSure hfit rfl rfl rfl hcat (Or.inl (Nat.lt_of_le_of_lt (Nat.zero_le _) h0.2)) d (fun r9 I9 F9 h9 => by obtain ⟨rfl, rfl, rfl⟩ := h9; exact kk)
theorem lmX5_58 : Cond.methodLink RX5 58 yX5_reads ∈ gw := gw_of 713 (by decide +kernel) (by decide +kernel)
theorem kX5_58 (C : Cx E RX5 cc nL p s m args meth c) {a0 : Int32} {a1 : Int32} {v : Value} {k : Nat} (h0 : ob N k 5) (hM : CtF l E mX5_reads [rf E k, .int a0, .int a1] N I F N (some v) I2 F2) (hfit : Fits mX5_reads R cells slots) (hcat : (st.map fun v => v.category).sum ≤ 8) (d : decode cc pc = .ok (.invokevirtual 58, 3)) (kk : G E N nL p l e R s m args below meth c cells slots Q I2 F2 (pc + 3) ls (v :: st)) : G E N nL p l e R s m args below meth c cells slots Q I F pc ls (.int a1 :: .int a0 :: rf E k :: st) := g_callV C (M := mX5_reads) (As := [.int a0, .int a1]) (rest := st) (N2 := N) hM lmX5_58 vX5_reads (q := 5) (CN := RX5) (T := TX5) (nf := 16) rfl (by decide) rfl h0 viX5_reads vsX5_reads hfit rfl rfl rfl hcat (Or.inl (Nat.lt_of_le_of_lt (Nat.zero_le _) h0.2)) d (fun r9 I9 F9 h9 => by obtain ⟨rfl, rfl, rfl⟩ := h9; exact kk)
theorem lmX5_61 : Cond.methodLink RX5 61 yX5_readersOf ∈ gw := gw_of 737 (by decide +kernel) (by decide +kernel)
theorem kX5_61 (C : Cx E RX5 cc nL p s m args meth c) {a0 : Int32} {v : Value} {k : Nat} (h0 : ob N k 5) (hM : CtF l E mX5_readersOf [rf E k, .int a0] N I F N (some v) I2 F2) (hfit : Fits mX5_readersOf R cells slots) (hcat : (st.map fun v => v.category).sum ≤ 8) (d : decode cc pc = .ok (.invokevirtual 61, 3)) (kk : G E N nL p l e R s m args below meth c cells slots Q I2 F2 (pc + 3) ls (v :: st)) : G E N nL p l e R s m args below meth c cells slots Q I F pc ls (.int a0 :: rf E k :: st) := g_callV C (M := mX5_readersOf) (As := [.int a0]) (rest := st) (N2 := N) hM lmX5_61 vX5_readersOf (q := 5) (CN := RX5) (T := TX5) (nf := 16) rfl (by decide) rfl h0 viX5_readersOf vsX5_readersOf hfit rfl rfl rfl hcat (Or.inl (Nat.lt_of_le_of_lt (Nat.zero_le _) h0.2)) d (fun r9 I9 F9 h9 => by obtain ⟨rfl, rfl, rfl⟩ := h9; exact kk)
theorem lmX5_65 : Cond.methodLink RX5 65 yX5_setOf ∈ gw := gw_of 741 (by decide +kernel) (by decide +kernel)
theorem kX5_65 (C : Cx E RX5 cc nL p s m args meth c) {a0 : Int32} {v : Value} {k : Nat} (h0 : ob N k 5) (hM : CtF l E mX5_setOf [rf E k, .int a0] N I F N (some v) I2 F2) (hfit : Fits mX5_setOf R cells slots) (hcat : (st.map fun v => v.category).sum ≤ 8) (d : decode cc pc = .ok (.invokevirtual 65, 3)) (kk : G E N nL p l e R s m args below meth c cells slots Q I2 F2 (pc + 3) ls (v :: st)) : G E N nL p l e R s m args below meth c cells slots Q I F pc ls (.int a0 :: rf E k :: st) := g_callV C (M := mX5_setOf) (As := [.int a0]) (rest := st) (N2 := N) hM lmX5_65 vX5_setOf (q := 5) (CN := RX5) (T := TX5) (nf := 16) rfl (by decide) rfl h0 viX5_setOf vsX5_setOf hfit rfl rfl rfl hcat (Or.inl (Nat.lt_of_le_of_lt (Nat.zero_le _) h0.2)) d (fun r9 I9 F9 h9 => by obtain ⟨rfl, rfl, rfl⟩ := h9; exact kk)
theorem lmX5_68 : Cond.methodLink RX5 68 yX5_setPart ∈ gw := gw_of 669 (by decide +kernel) (by decide +kernel)
theorem kX5_68 (C : Cx E RX5 cc nL p s m args meth c) {a0 : Int32} {a1 : Int32} {a2 : Int32} {k : Nat} (h0 : ob N k 5) (hM : CtF l E mX5_setPart [rf E k, .int a0, .int a1, .int a2] N I F N none I2 F2) (hfit : Fits mX5_setPart R cells slots) (hcat : (st.map fun v => v.category).sum ≤ 8) (d : decode cc pc = .ok (.invokevirtual 68, 3)) (kk : G E N nL p l e R s m args below meth c cells slots Q I2 F2 (pc + 3) ls st) : G E N nL p l e R s m args below meth c cells slots Q I F pc ls (.int a2 :: .int a1 :: .int a0 :: rf E k :: st) := g_callV C (M := mX5_setPart) (As := [.int a0, .int a1, .int a2]) (rest := st) (N2 := N) hM lmX5_68 vX5_setPart (q := 5) (CN := RX5) (T := TX5) (nf := 16) rfl (by decide) rfl h0 viX5_setPart vsX5_setPart hfit rfl rfl rfl hcat (Or.inl (Nat.lt_of_le_of_lt (Nat.zero_le _) h0.2)) d (fun r9 I9 F9 h9 => by obtain ⟨rfl, rfl, rfl⟩ := h9; exact kk)
theorem lmX5_72 : Cond.methodLink RX5 72 yX5_tellsNow ∈ gw := gw_of 772 (by decide +kernel) (by decide +kernel)
theorem kX5_72 (C : Cx E RX5 cc nL p s m args meth c) {a0 : Int32} {v : Value} {k : Nat} (h0 : ob N k 5) (hM : CtF l E mX5_tellsNow [rf E k, .int a0] N I F N (some v) I2 F2) (hfit : Fits mX5_tellsNow R cells slots) (hcat : (st.map fun v => v.category).sum ≤ 8) (d : decode cc pc = .ok (.invokevirtual 72, 3)) (kk : G E N nL p l e R s m args below meth c cells slots Q I2 F2 (pc + 3) ls (v :: st)) : G E N nL p l e R s m args below meth c cells slots Q I F pc ls (.int a0 :: rf E k :: st) := g_callV C (M := mX5_tellsNow) (As := [.int a0]) (rest := st) (N2 := N) hM lmX5_72 vX5_tellsNow (q := 5) (CN := RX5) (T := TX5) (nf := 16) rfl (by decide) rfl h0 viX5_tellsNow vsX5_tellsNow hfit rfl rfl rfl hcat (Or.inl (Nat.lt_of_le_of_lt (Nat.zero_le _) h0.2)) d (fun r9 I9 F9 h9 => by obtain ⟨rfl, rfl, rfl⟩ := h9; exact kk)
theorem lmX5_75 : Cond.methodLink RX5 75 yX5_awakeReaders ∈ gw := gw_of 733 (by decide +kernel) (by decide +kernel)
theorem kX5_75 (C : Cx E RX5 cc nL p s m args meth c) {a0 : Int32} {v : Value} {k : Nat} (h0 : ob N k 5) (hM : CtF l E mX5_awakeReaders [rf E k, .int a0] N I F N (some v) I2 F2) (hfit : Fits mX5_awakeReaders R cells slots) (hcat : (st.map fun v => v.category).sum ≤ 8) (d : decode cc pc = .ok (.invokevirtual 75, 3)) (kk : G E N nL p l e R s m args below meth c cells slots Q I2 F2 (pc + 3) ls (v :: st)) : G E N nL p l e R s m args below meth c cells slots Q I F pc ls (.int a0 :: rf E k :: st) := g_callV C (M := mX5_awakeReaders) (As := [.int a0]) (rest := st) (N2 := N) hM lmX5_75 vX5_awakeReaders (q := 5) (CN := RX5) (T := TX5) (nf := 16) rfl (by decide) rfl h0 viX5_awakeReaders vsX5_awakeReaders hfit rfl rfl rfl hcat (Or.inl (Nat.lt_of_le_of_lt (Nat.zero_le _) h0.2)) d (fun r9 I9 F9 h9 => by obtain ⟨rfl, rfl, rfl⟩ := h9; exact kk)
theorem lmX5_78 : Cond.methodLink RX5 78 yX5_waitsNow ∈ gw := gw_of 752 (by decide +kernel) (by decide +kernel)
theorem kX5_78 (C : Cx E RX5 cc nL p s m args meth c) {a0 : Int32} {k : Nat} (h0 : ob N k 5) (hM : CtF l E mX5_waitsNow [rf E k, .int a0] N I F N none I2 F2) (hfit : Fits mX5_waitsNow R cells slots) (hcat : (st.map fun v => v.category).sum ≤ 8) (d : decode cc pc = .ok (.invokevirtual 78, 3)) (kk : G E N nL p l e R s m args below meth c cells slots Q I2 F2 (pc + 3) ls st) : G E N nL p l e R s m args below meth c cells slots Q I F pc ls (.int a0 :: rf E k :: st) := g_callV C (M := mX5_waitsNow) (As := [.int a0]) (rest := st) (N2 := N) hM lmX5_78 vX5_waitsNow (q := 5) (CN := RX5) (T := TX5) (nf := 16) rfl (by decide) rfl h0 viX5_waitsNow vsX5_waitsNow hfit rfl rfl rfl hcat (Or.inl (Nat.lt_of_le_of_lt (Nat.zero_le _) h0.2)) d (fun r9 I9 F9 h9 => by obtain ⟨rfl, rfl, rfl⟩ := h9; exact kk)
theorem lmX5_82 : Cond.methodLink RX5 82 yX5_risingLoad ∈ gw := gw_of 796 (by decide +kernel) (by decide +kernel)
theorem kX5_82 (C : Cx E RX5 cc nL p s m args meth c)  {v : Value} {k : Nat} (h0 : ob N k 5) (hM : CtF l E mX5_risingLoad [rf E k] N I F N (some v) I2 F2) (hfit : Fits mX5_risingLoad R cells slots) (hcat : (st.map fun v => v.category).sum ≤ 8) (d : decode cc pc = .ok (.invokevirtual 82, 3)) (kk : G E N nL p l e R s m args below meth c cells slots Q I2 F2 (pc + 3) ls (v :: st)) : G E N nL p l e R s m args below meth c cells slots Q I F pc ls (rf E k :: st) := g_callV C (M := mX5_risingLoad) (As := []) (rest := st) (N2 := N) hM lmX5_82 vX5_risingLoad (q := 5) (CN := RX5) (T := TX5) (nf := 16) rfl (by decide) rfl h0 viX5_risingLoad vsX5_risingLoad hfit rfl rfl rfl hcat (Or.inl (Nat.lt_of_le_of_lt (Nat.zero_le _) h0.2)) d (fun r9 I9 F9 h9 => by obtain ⟨rfl, rfl, rfl⟩ := h9; exact kk)
theorem lmX5_86 : Cond.methodLink RX5 86 yX5_newValues ∈ gw := gw_of 768 (by decide +kernel) (by decide +kernel)
theorem kX5_86 (C : Cx E RX5 cc nL p s m args meth c)  {k : Nat} (h0 : ob N k 5) (hM : CtF l E mX5_newValues [rf E k] N I F N none I2 F2) (hfit : Fits mX5_newValues R cells slots) (hcat : (st.map fun v => v.category).sum ≤ 8) (d : decode cc pc = .ok (.invokevirtual 86, 3)) (kk : G E N nL p l e R s m args below meth c cells slots Q I2 F2 (pc + 3) ls st) : G E N nL p l e R s m args below meth c cells slots Q I F pc ls (rf E k :: st) := g_callV C (M := mX5_newValues) (As := []) (rest := st) (N2 := N) hM lmX5_86 vX5_newValues (q := 5) (CN := RX5) (T := TX5) (nf := 16) rfl (by decide) rfl h0 viX5_newValues vsX5_newValues hfit rfl rfl rfl hcat (Or.inl (Nat.lt_of_le_of_lt (Nat.zero_le _) h0.2)) d (fun r9 I9 F9 h9 => by obtain ⟨rfl, rfl, rfl⟩ := h9; exact kk)
theorem lmX5_89 : Cond.methodLink RX5 89 yX5_fallAsleep ∈ gw := gw_of 780 (by decide +kernel) (by decide +kernel)
theorem kX5_89 (C : Cx E RX5 cc nL p s m args meth c)  {k : Nat} (h0 : ob N k 5) (hM : CtF l E mX5_fallAsleep [rf E k] N I F N none I2 F2) (hfit : Fits mX5_fallAsleep R cells slots) (hcat : (st.map fun v => v.category).sum ≤ 8) (d : decode cc pc = .ok (.invokevirtual 89, 3)) (kk : G E N nL p l e R s m args below meth c cells slots Q I2 F2 (pc + 3) ls st) : G E N nL p l e R s m args below meth c cells slots Q I F pc ls (rf E k :: st) := g_callV C (M := mX5_fallAsleep) (As := []) (rest := st) (N2 := N) hM lmX5_89 vX5_fallAsleep (q := 5) (CN := RX5) (T := TX5) (nf := 16) rfl (by decide) rfl h0 viX5_fallAsleep vsX5_fallAsleep hfit rfl rfl rfl hcat (Or.inl (Nat.lt_of_le_of_lt (Nat.zero_le _) h0.2)) d (fun r9 I9 F9 h9 => by obtain ⟨rfl, rfl, rfl⟩ := h9; exact kk)
theorem lmX5_92 : Cond.methodLink RX5 92 yX5_riseOn ∈ gw := gw_of 784 (by decide +kernel) (by decide +kernel)
theorem kX5_92 (C : Cx E RX5 cc nL p s m args meth c)  {k : Nat} (h0 : ob N k 5) (hM : CtF l E mX5_riseOn [rf E k] N I F N none I2 F2) (hfit : Fits mX5_riseOn R cells slots) (hcat : (st.map fun v => v.category).sum ≤ 8) (d : decode cc pc = .ok (.invokevirtual 92, 3)) (kk : G E N nL p l e R s m args below meth c cells slots Q I2 F2 (pc + 3) ls st) : G E N nL p l e R s m args below meth c cells slots Q I F pc ls (rf E k :: st) := g_callV C (M := mX5_riseOn) (As := []) (rest := st) (N2 := N) hM lmX5_92 vX5_riseOn (q := 5) (CN := RX5) (T := TX5) (nf := 16) rfl (by decide) rfl h0 viX5_riseOn vsX5_riseOn hfit rfl rfl rfl hcat (Or.inl (Nat.lt_of_le_of_lt (Nat.zero_le _) h0.2)) d (fun r9 I9 F9 h9 => by obtain ⟨rfl, rfl, rfl⟩ := h9; exact kk)
theorem lmX5_95 : Cond.methodLink RX5 95 yX5_ask ∈ gw := gw_of 788 (by decide +kernel) (by decide +kernel)
theorem kX5_95 (C : Cx E RX5 cc nL p s m args meth c)  {k : Nat} (h0 : ob N k 5) (hM : CtF l E mX5_ask [rf E k] N I F N none I2 F2) (hfit : Fits mX5_ask R cells slots) (hcat : (st.map fun v => v.category).sum ≤ 8) (d : decode cc pc = .ok (.invokevirtual 95, 3)) (kk : G E N nL p l e R s m args below meth c cells slots Q I2 F2 (pc + 3) ls st) : G E N nL p l e R s m args below meth c cells slots Q I F pc ls (rf E k :: st) := g_callV C (M := mX5_ask) (As := []) (rest := st) (N2 := N) hM lmX5_95 vX5_ask (q := 5) (CN := RX5) (T := TX5) (nf := 16) rfl (by decide) rfl h0 viX5_ask vsX5_ask hfit rfl rfl rfl hcat (Or.inl (Nat.lt_of_le_of_lt (Nat.zero_le _) h0.2)) d (fun r9 I9 F9 h9 => by obtain ⟨rfl, rfl, rfl⟩ := h9; exact kk)
theorem lmX5_98 : Cond.methodLink RX5 98 yX5_letRise ∈ gw := gw_of 792 (by decide +kernel) (by decide +kernel)
theorem kX5_98 (C : Cx E RX5 cc nL p s m args meth c)  {k : Nat} (h0 : ob N k 5) (hM : CtF l E mX5_letRise [rf E k] N I F N none I2 F2) (hfit : Fits mX5_letRise R cells slots) (hcat : (st.map fun v => v.category).sum ≤ 8) (d : decode cc pc = .ok (.invokevirtual 98, 3)) (kk : G E N nL p l e R s m args below meth c cells slots Q I2 F2 (pc + 3) ls st) : G E N nL p l e R s m args below meth c cells slots Q I F pc ls (rf E k :: st) := g_callV C (M := mX5_letRise) (As := []) (rest := st) (N2 := N) hM lmX5_98 vX5_letRise (q := 5) (CN := RX5) (T := TX5) (nf := 16) rfl (by decide) rfl h0 viX5_letRise vsX5_letRise hfit rfl rfl rfl hcat (Or.inl (Nat.lt_of_le_of_lt (Nat.zero_le _) h0.2)) d (fun r9 I9 F9 h9 => by obtain ⟨rfl, rfl, rfl⟩ := h9; exact kk)
theorem lmX5_101 : Cond.methodLink RX5 101 yX5_tick ∈ gw := gw_of 764 (by decide +kernel) (by decide +kernel)
theorem kX5_101 (C : Cx E RX5 cc nL p s m args meth c)  {k : Nat} (h0 : ob N k 5) (hM : CtF l E mX5_tick [rf E k] N I F N none I2 F2) (hfit : Fits mX5_tick R cells slots) (hcat : (st.map fun v => v.category).sum ≤ 8) (d : decode cc pc = .ok (.invokevirtual 101, 3)) (kk : G E N nL p l e R s m args below meth c cells slots Q I2 F2 (pc + 3) ls st) : G E N nL p l e R s m args below meth c cells slots Q I F pc ls (rf E k :: st) := g_callV C (M := mX5_tick) (As := []) (rest := st) (N2 := N) hM lmX5_101 vX5_tick (q := 5) (CN := RX5) (T := TX5) (nf := 16) rfl (by decide) rfl h0 viX5_tick vsX5_tick hfit rfl rfl rfl hcat (Or.inl (Nat.lt_of_le_of_lt (Nat.zero_le _) h0.2)) d (fun r9 I9 F9 h9 => by obtain ⟨rfl, rfl, rfl⟩ := h9; exact kk)
theorem lmX5_104 : Cond.methodLink RX5 104 yX5_isValue ∈ gw := gw_of 648 (by decide +kernel) (by decide +kernel)
theorem kX5_104 (C : Cx E RX5 cc nL p s m args meth c) {a0 : Int32} {a1 : Int32} {v : Value} (h0 : 0 < N) (hM : CtF l E mX5_isValue [.int a0, .int a1] N I F N (some v) I2 F2) (hfit : Fits mX5_isValue R cells slots) (hcat : (st.map fun v => v.category).sum ≤ 8) (d : decode cc pc = .ok (.invokestatic 104, 3)) (kk : G E N nL p l e R s m args below meth c cells slots Q I2 F2 (pc + 3) ls (v :: st)) : G E N nL p l e R s m args below meth c cells slots Q I F pc ls (.int a1 :: .int a0 :: st) := g_callS C (M := mX5_isValue) (As := [.int a0, .int a1]) (rest := st) (N2 := N) hM lmX5_104 vX5_isValue vtX5_isValue hfit rfl rfl rfl hcat (Or.inl h0) d (fun r9 I9 F9 h9 => by obtain ⟨rfl, rfl, rfl⟩ := h9; exact kk)
theorem lmX5_107 : Cond.methodLink RX5 107 yX5_record ∈ gw := gw_of 654 (by decide +kernel) (by decide +kernel)
theorem kX5_107 (C : Cx E RX5 cc nL p s m args meth c)  {k : Nat} (h0 : ob N k 5) (hM : CtF l E mX5_record [rf E k] N I F N none I2 F2) (hfit : Fits mX5_record R cells slots) (hcat : (st.map fun v => v.category).sum ≤ 8) (d : decode cc pc = .ok (.invokevirtual 107, 3)) (kk : G E N nL p l e R s m args below meth c cells slots Q I2 F2 (pc + 3) ls st) : G E N nL p l e R s m args below meth c cells slots Q I F pc ls (rf E k :: st) := g_callV C (M := mX5_record) (As := []) (rest := st) (N2 := N) hM lmX5_107 vX5_record (q := 5) (CN := RX5) (T := TX5) (nf := 16) rfl (by decide) rfl h0 viX5_record vsX5_record hfit rfl rfl rfl hcat (Or.inl (Nat.lt_of_le_of_lt (Nat.zero_le _) h0.2)) d (fun r9 I9 F9 h9 => by obtain ⟨rfl, rfl, rfl⟩ := h9; exact kk)
theorem lmX5_110 : Cond.methodLink RX5 110 yX5_comes ∈ gw := gw_of 665 (by decide +kernel) (by decide +kernel)
theorem kX5_110 (C : Cx E RX5 cc nL p s m args meth c) {a0 : Int32} {a1 : Int32} {a2 : Int32} {a3 : Int32} {a4 : Int32} {k : Nat} (h0 : ob N k 5) (hM : CtF l E mX5_comes [rf E k, .int a0, .int a1, .int a2, .int a3, .int a4] N I F N none I2 F2) (hfit : Fits mX5_comes R cells slots) (hcat : (st.map fun v => v.category).sum ≤ 8) (d : decode cc pc = .ok (.invokevirtual 110, 3)) (kk : G E N nL p l e R s m args below meth c cells slots Q I2 F2 (pc + 3) ls st) : G E N nL p l e R s m args below meth c cells slots Q I F pc ls (.int a4 :: .int a3 :: .int a2 :: .int a1 :: .int a0 :: rf E k :: st) := g_callV C (M := mX5_comes) (As := [.int a0, .int a1, .int a2, .int a3, .int a4]) (rest := st) (N2 := N) hM lmX5_110 vX5_comes (q := 5) (CN := RX5) (T := TX5) (nf := 16) rfl (by decide) rfl h0 viX5_comes vsX5_comes hfit rfl rfl rfl hcat (Or.inl (Nat.lt_of_le_of_lt (Nat.zero_le _) h0.2)) d (fun r9 I9 F9 h9 => by obtain ⟨rfl, rfl, rfl⟩ := h9; exact kk)
theorem lmX5_120 : Cond.methodLink RX5 120 yX5_readsIsland ∈ gw := gw_of 681 (by decide +kernel) (by decide +kernel)
theorem kX5_120 (C : Cx E RX5 cc nL p s m args meth c) {a0 : Int32} {v : Value} {k : Nat} (h0 : ob N k 5) (hM : CtF l E mX5_readsIsland [rf E k, .int a0] N I F N (some v) I2 F2) (hfit : Fits mX5_readsIsland R cells slots) (hcat : (st.map fun v => v.category).sum ≤ 8) (d : decode cc pc = .ok (.invokevirtual 120, 3)) (kk : G E N nL p l e R s m args below meth c cells slots Q I2 F2 (pc + 3) ls (v :: st)) : G E N nL p l e R s m args below meth c cells slots Q I F pc ls (.int a0 :: rf E k :: st) := g_callV C (M := mX5_readsIsland) (As := [.int a0]) (rest := st) (N2 := N) hM lmX5_120 vX5_readsIsland (q := 5) (CN := RX5) (T := TX5) (nf := 16) rfl (by decide) rfl h0 viX5_readsIsland vsX5_readsIsland hfit rfl rfl rfl hcat (Or.inl (Nat.lt_of_le_of_lt (Nat.zero_le _) h0.2)) d (fun r9 I9 F9 h9 => by obtain ⟨rfl, rfl, rfl⟩ := h9; exact kk)
theorem lmX5_123 : Cond.methodLink RX5 123 yX5_isNext ∈ gw := gw_of 685 (by decide +kernel) (by decide +kernel)
theorem kX5_123 (C : Cx E RX5 cc nL p s m args meth c) {a0 : Int32} {v : Value} {k : Nat} (h0 : ob N k 5) (hM : CtF l E mX5_isNext [rf E k, .int a0] N I F N (some v) I2 F2) (hfit : Fits mX5_isNext R cells slots) (hcat : (st.map fun v => v.category).sum ≤ 8) (d : decode cc pc = .ok (.invokevirtual 123, 3)) (kk : G E N nL p l e R s m args below meth c cells slots Q I2 F2 (pc + 3) ls (v :: st)) : G E N nL p l e R s m args below meth c cells slots Q I F pc ls (.int a0 :: rf E k :: st) := g_callV C (M := mX5_isNext) (As := [.int a0]) (rest := st) (N2 := N) hM lmX5_123 vX5_isNext (q := 5) (CN := RX5) (T := TX5) (nf := 16) rfl (by decide) rfl h0 viX5_isNext vsX5_isNext hfit rfl rfl rfl hcat (Or.inl (Nat.lt_of_le_of_lt (Nat.zero_le _) h0.2)) d (fun r9 I9 F9 h9 => by obtain ⟨rfl, rfl, rfl⟩ := h9; exact kk)
theorem lmX5_129 : Cond.methodLink RX5 129 yX5_findFault ∈ gw := gw_of 677 (by decide +kernel) (by decide +kernel)
theorem kX5_129 (C : Cx E RX5 cc nL p s m args meth c)  {v : Value} {k : Nat} (h0 : ob N k 5) (hM : CtF l E mX5_findFault [rf E k] N I F N (some v) I2 F2) (hfit : Fits mX5_findFault R cells slots) (hcat : (st.map fun v => v.category).sum ≤ 8) (d : decode cc pc = .ok (.invokevirtual 129, 3)) (kk : G E N nL p l e R s m args below meth c cells slots Q I2 F2 (pc + 3) ls (v :: st)) : G E N nL p l e R s m args below meth c cells slots Q I F pc ls (rf E k :: st) := g_callV C (M := mX5_findFault) (As := []) (rest := st) (N2 := N) hM lmX5_129 vX5_findFault (q := 5) (CN := RX5) (T := TX5) (nf := 16) rfl (by decide) rfl h0 viX5_findFault vsX5_findFault hfit rfl rfl rfl hcat (Or.inl (Nat.lt_of_le_of_lt (Nat.zero_le _) h0.2)) d (fun r9 I9 F9 h9 => by obtain ⟨rfl, rfl, rfl⟩ := h9; exact kk)
theorem lmX5_132 : Cond.methodLink RX5 132 yX5_toldMany ∈ gw := gw_of 701 (by decide +kernel) (by decide +kernel)
theorem kX5_132 (C : Cx E RX5 cc nL p s m args meth c)  {v : Value} {k : Nat} (h0 : ob N k 5) (hM : CtF l E mX5_toldMany [rf E k] N I F N (some v) I2 F2) (hfit : Fits mX5_toldMany R cells slots) (hcat : (st.map fun v => v.category).sum ≤ 8) (d : decode cc pc = .ok (.invokevirtual 132, 3)) (kk : G E N nL p l e R s m args below meth c cells slots Q I2 F2 (pc + 3) ls (v :: st)) : G E N nL p l e R s m args below meth c cells slots Q I F pc ls (rf E k :: st) := g_callV C (M := mX5_toldMany) (As := []) (rest := st) (N2 := N) hM lmX5_132 vX5_toldMany (q := 5) (CN := RX5) (T := TX5) (nf := 16) rfl (by decide) rfl h0 viX5_toldMany vsX5_toldMany hfit rfl rfl rfl hcat (Or.inl (Nat.lt_of_le_of_lt (Nat.zero_le _) h0.2)) d (fun r9 I9 F9 h9 => by obtain ⟨rfl, rfl, rfl⟩ := h9; exact kk)
theorem lmX5_147 : Cond.methodLink RX5 147 yX5_isIsland ∈ gw := gw_of 709 (by decide +kernel) (by decide +kernel)
theorem kX5_147 (C : Cx E RX5 cc nL p s m args meth c) {a0 : Int32} {v : Value} {k : Nat} (h0 : ob N k 5) (hM : CtF l E mX5_isIsland [rf E k, .int a0] N I F N (some v) I2 F2) (hfit : Fits mX5_isIsland R cells slots) (hcat : (st.map fun v => v.category).sum ≤ 8) (d : decode cc pc = .ok (.invokevirtual 147, 3)) (kk : G E N nL p l e R s m args below meth c cells slots Q I2 F2 (pc + 3) ls (v :: st)) : G E N nL p l e R s m args below meth c cells slots Q I F pc ls (.int a0 :: rf E k :: st) := g_callV C (M := mX5_isIsland) (As := [.int a0]) (rest := st) (N2 := N) hM lmX5_147 vX5_isIsland (q := 5) (CN := RX5) (T := TX5) (nf := 16) rfl (by decide) rfl h0 viX5_isIsland vsX5_isIsland hfit rfl rfl rfl hcat (Or.inl (Nat.lt_of_le_of_lt (Nat.zero_le _) h0.2)) d (fun r9 I9 F9 h9 => by obtain ⟨rfl, rfl, rfl⟩ := h9; exact kk)
theorem lmX5_150 : Cond.methodLink RX5 150 yX5_bits ∈ gw := gw_of 745 (by decide +kernel) (by decide +kernel)
theorem kX5_150 (C : Cx E RX5 cc nL p s m args meth c) {a0 : Int32} {v : Value} (h0 : 0 < N) (hM : CtF l E mX5_bits [.int a0] N I F N (some v) I2 F2) (hfit : Fits mX5_bits R cells slots) (hcat : (st.map fun v => v.category).sum ≤ 8) (d : decode cc pc = .ok (.invokestatic 150, 3)) (kk : G E N nL p l e R s m args below meth c cells slots Q I2 F2 (pc + 3) ls (v :: st)) : G E N nL p l e R s m args below meth c cells slots Q I F pc ls (.int a0 :: st) := g_callS C (M := mX5_bits) (As := [.int a0]) (rest := st) (N2 := N) hM lmX5_150 vX5_bits vtX5_bits hfit rfl rfl rfl hcat (Or.inl h0) d (fun r9 I9 F9 h9 => by obtain ⟨rfl, rfl, rfl⟩ := h9; exact kk)
theorem lmX5_153 : Cond.methodLink RX5 153 yX5_passes ∈ gw := gw_of 760 (by decide +kernel) (by decide +kernel)
theorem kX5_153 (C : Cx E RX5 cc nL p s m args meth c) {a0 : Int32} {v : Value} {k : Nat} (h0 : ob N k 5) (hM : CtF l E mX5_passes [rf E k, .int a0] N I F N (some v) I2 F2) (hfit : Fits mX5_passes R cells slots) (hcat : (st.map fun v => v.category).sum ≤ 8) (d : decode cc pc = .ok (.invokevirtual 153, 3)) (kk : G E N nL p l e R s m args below meth c cells slots Q I2 F2 (pc + 3) ls (v :: st)) : G E N nL p l e R s m args below meth c cells slots Q I F pc ls (.int a0 :: rf E k :: st) := g_callV C (M := mX5_passes) (As := [.int a0]) (rest := st) (N2 := N) hM lmX5_153 vX5_passes (q := 5) (CN := RX5) (T := TX5) (nf := 16) rfl (by decide) rfl h0 viX5_passes vsX5_passes hfit rfl rfl rfl hcat (Or.inl (Nat.lt_of_le_of_lt (Nat.zero_le _) h0.2)) d (fun r9 I9 F9 h9 => by obtain ⟨rfl, rfl, rfl⟩ := h9; exact kk)
theorem lmX5_156 : Cond.methodLink RX5 156 yX5_placeOf ∈ gw := gw_of 804 (by decide +kernel) (by decide +kernel)
theorem kX5_156 (C : Cx E RX5 cc nL p s m args meth c) {a0 : Int32} {v : Value} {k : Nat} (h0 : ob N k 5) (hM : CtF l E mX5_placeOf [rf E k, .int a0] N I F N (some v) I2 F2) (hfit : Fits mX5_placeOf R cells slots) (hcat : (st.map fun v => v.category).sum ≤ 8) (d : decode cc pc = .ok (.invokevirtual 156, 3)) (kk : G E N nL p l e R s m args below meth c cells slots Q I2 F2 (pc + 3) ls (v :: st)) : G E N nL p l e R s m args below meth c cells slots Q I F pc ls (.int a0 :: rf E k :: st) := g_callV C (M := mX5_placeOf) (As := [.int a0]) (rest := st) (N2 := N) hM lmX5_156 vX5_placeOf (q := 5) (CN := RX5) (T := TX5) (nf := 16) rfl (by decide) rfl h0 viX5_placeOf vsX5_placeOf hfit rfl rfl rfl hcat (Or.inl (Nat.lt_of_le_of_lt (Nat.zero_le _) h0.2)) d (fun r9 I9 F9 h9 => by obtain ⟨rfl, rfl, rfl⟩ := h9; exact kk)
theorem lmX5_159 : Cond.methodLink RX5 159 yX5_allValues ∈ gw := gw_of 820 (by decide +kernel) (by decide +kernel)
theorem kX5_159 (C : Cx E RX5 cc nL p s m args meth c)  {v : Value} {k : Nat} (h0 : ob N k 5) (hM : CtF l E mX5_allValues [rf E k] N I F N (some v) I2 F2) (hfit : Fits mX5_allValues R cells slots) (hcat : (st.map fun v => v.category).sum ≤ 8) (d : decode cc pc = .ok (.invokevirtual 159, 3)) (kk : G E N nL p l e R s m args below meth c cells slots Q I2 F2 (pc + 3) ls (v :: st)) : G E N nL p l e R s m args below meth c cells slots Q I F pc ls (rf E k :: st) := g_callV C (M := mX5_allValues) (As := []) (rest := st) (N2 := N) hM lmX5_159 vX5_allValues (q := 5) (CN := RX5) (T := TX5) (nf := 16) rfl (by decide) rfl h0 viX5_allValues vsX5_allValues hfit rfl rfl rfl hcat (Or.inl (Nat.lt_of_le_of_lt (Nat.zero_le _) h0.2)) d (fun r9 I9 F9 h9 => by obtain ⟨rfl, rfl, rfl⟩ := h9; exact kk)
theorem lmX5_162 : Cond.methodLink RX5 162 yX5_areAllAwake ∈ gw := gw_of 832 (by decide +kernel) (by decide +kernel)
theorem kX5_162 (C : Cx E RX5 cc nL p s m args meth c)  {v : Value} {k : Nat} (h0 : ob N k 5) (hM : CtF l E mX5_areAllAwake [rf E k] N I F N (some v) I2 F2) (hfit : Fits mX5_areAllAwake R cells slots) (hcat : (st.map fun v => v.category).sum ≤ 8) (d : decode cc pc = .ok (.invokevirtual 162, 3)) (kk : G E N nL p l e R s m args below meth c cells slots Q I2 F2 (pc + 3) ls (v :: st)) : G E N nL p l e R s m args below meth c cells slots Q I F pc ls (rf E k :: st) := g_callV C (M := mX5_areAllAwake) (As := []) (rest := st) (N2 := N) hM lmX5_162 vX5_areAllAwake (q := 5) (CN := RX5) (T := TX5) (nf := 16) rfl (by decide) rfl h0 viX5_areAllAwake vsX5_areAllAwake hfit rfl rfl rfl hcat (Or.inl (Nat.lt_of_le_of_lt (Nat.zero_le _) h0.2)) d (fun r9 I9 F9 h9 => by obtain ⟨rfl, rfl, rfl⟩ := h9; exact kk)
theorem lmX5_166 : Cond.methodLink RX5 166 yX5_allAwakeWith ∈ gw := gw_of 828 (by decide +kernel) (by decide +kernel)
theorem kX5_166 (C : Cx E RX5 cc nL p s m args meth c) {a0 : Int32} {v : Value} {k : Nat} (h0 : ob N k 5) (hM : CtF l E mX5_allAwakeWith [rf E k, .int a0] N I F N (some v) I2 F2) (hfit : Fits mX5_allAwakeWith R cells slots) (hcat : (st.map fun v => v.category).sum ≤ 8) (d : decode cc pc = .ok (.invokevirtual 166, 3)) (kk : G E N nL p l e R s m args below meth c cells slots Q I2 F2 (pc + 3) ls (v :: st)) : G E N nL p l e R s m args below meth c cells slots Q I F pc ls (.int a0 :: rf E k :: st) := g_callV C (M := mX5_allAwakeWith) (As := [.int a0]) (rest := st) (N2 := N) hM lmX5_166 vX5_allAwakeWith (q := 5) (CN := RX5) (T := TX5) (nf := 16) rfl (by decide) rfl h0 viX5_allAwakeWith vsX5_allAwakeWith hfit rfl rfl rfl hcat (Or.inl (Nat.lt_of_le_of_lt (Nat.zero_le _) h0.2)) d (fun r9 I9 F9 h9 => by obtain ⟨rfl, rfl, rfl⟩ := h9; exact kk)
theorem lmX5_171 : Cond.methodLink RX5 171 yX5_character ∈ gw := gw_of 689 (by decide +kernel) (by decide +kernel)
theorem kX5_171 (C : Cx E RX5 cc nL p s m args meth c) {a0 : Int32} {v : Value} {k : Nat} (h0 : ob N k 5) (hM : CtF l E mX5_character [rf E k, .int a0] N I F N (some v) I2 F2) (hfit : Fits mX5_character R cells slots) (hcat : (st.map fun v => v.category).sum ≤ 8) (d : decode cc pc = .ok (.invokevirtual 171, 3)) (kk : G E N nL p l e R s m args below meth c cells slots Q I2 F2 (pc + 3) ls (v :: st)) : G E N nL p l e R s m args below meth c cells slots Q I F pc ls (.int a0 :: rf E k :: st) := g_callV C (M := mX5_character) (As := [.int a0]) (rest := st) (N2 := N) hM lmX5_171 vX5_character (q := 5) (CN := RX5) (T := TX5) (nf := 16) rfl (by decide) rfl h0 viX5_character vsX5_character hfit rfl rfl rfl hcat (Or.inl (Nat.lt_of_le_of_lt (Nat.zero_le _) h0.2)) d (fun r9 I9 F9 h9 => by obtain ⟨rfl, rfl, rfl⟩ := h9; exact kk)
theorem lmX5_174 : Cond.methodLink RX5 174 yX5_takeDigit ∈ gw := gw_of 693 (by decide +kernel) (by decide +kernel)
theorem kX5_174 (C : Cx E RX5 cc nL p s m args meth c) {a0 : Int32} {a1 : Int32} {v : Value} {k : Nat} (h0 : ob N k 5) (hM : CtF l E mX5_takeDigit [rf E k, .int a0, .int a1] N I F N (some v) I2 F2) (hfit : Fits mX5_takeDigit R cells slots) (hcat : (st.map fun v => v.category).sum ≤ 8) (d : decode cc pc = .ok (.invokevirtual 174, 3)) (kk : G E N nL p l e R s m args below meth c cells slots Q I2 F2 (pc + 3) ls (v :: st)) : G E N nL p l e R s m args below meth c cells slots Q I F pc ls (.int a1 :: .int a0 :: rf E k :: st) := g_callV C (M := mX5_takeDigit) (As := [.int a0, .int a1]) (rest := st) (N2 := N) hM lmX5_174 vX5_takeDigit (q := 5) (CN := RX5) (T := TX5) (nf := 16) rfl (by decide) rfl h0 viX5_takeDigit vsX5_takeDigit hfit rfl rfl rfl hcat (Or.inl (Nat.lt_of_le_of_lt (Nat.zero_le _) h0.2)) d (fun r9 I9 F9 h9 => by obtain ⟨rfl, rfl, rfl⟩ := h9; exact kk)
theorem lmX5_177 : Cond.methodLink RX5 177 yX5_takeLoad ∈ gw := gw_of 697 (by decide +kernel) (by decide +kernel)
theorem kX5_177 (C : Cx E RX5 cc nL p s m args meth c)  {v : Value} {k : Nat} (h0 : ob N k 5) (hM : CtF l E mX5_takeLoad [rf E k] N I F N (some v) I2 F2) (hfit : Fits mX5_takeLoad R cells slots) (hcat : (st.map fun v => v.category).sum ≤ 8) (d : decode cc pc = .ok (.invokevirtual 177, 3)) (kk : G E N nL p l e R s m args below meth c cells slots Q I2 F2 (pc + 3) ls (v :: st)) : G E N nL p l e R s m args below meth c cells slots Q I F pc ls (rf E k :: st) := g_callV C (M := mX5_takeLoad) (As := []) (rest := st) (N2 := N) hM lmX5_177 vX5_takeLoad (q := 5) (CN := RX5) (T := TX5) (nf := 16) rfl (by decide) rfl h0 viX5_takeLoad vsX5_takeLoad hfit rfl rfl rfl hcat (Or.inl (Nat.lt_of_le_of_lt (Nat.zero_le _) h0.2)) d (fun r9 I9 F9 h9 => by obtain ⟨rfl, rfl, rfl⟩ := h9; exact kk)
theorem mx_static : Cond.static Lib.Math.max.name ∈ gw := gw_of 483 (by decide +kernel) (by decide +kernel)
theorem mx_ini : Cond.initialized "java/lang/Math" ∈ gw := gw_of 90 (by decide +kernel) (by decide +kernel)
theorem mx_code : Cond.code Lib.Math.max.name Lib.Math.max.code 2 (some .int) ∈ gw := gw_of 484 (by decide +kernel) (by decide +kernel)
theorem lmX0_107 : Cond.methodLink RX0 107 Lib.Math.max.name ∈ gw := gw_of 482 (by decide +kernel) (by decide +kernel)
theorem kX0_107 (C : Cx E RX0 cc nL p s m args meth c) {x y : Int32} (hf : 1 ≤ R.frames) (hlo : (st.map fun v => v.category).sum + 13 ≤ R.locals) (hc : cells ≤ R.cells) (hs : slots ≤ R.slots) (d : decode cc pc = .ok (.invokestatic 107, 3)) (kk : G E N nL p l e R s m args below meth c cells slots Q I F (pc + 3) ls (.int (if x < y then y else x) :: st)) : G E N nL p l e R s m args below meth c cells slots Q I F pc ls (.int y :: .int x :: st) := fun h hn H locs la hP hS hl => va_mmax C.1 C.2.1 (by rw [C.2.2.1, hl.1]) C.2.2.2.1 (C.2.2.2.2.1 _ lmX0_107) (C.2.2.2.2.1 _ mx_static) (C.2.2.2.2.1 _ mx_ini) (C.2.2.2.2.1 _ mx_code) hf hlo hc hs d (kk h hn H locs la hP hS hl)
end LK
theorem kcJ6_265 : Cond.constant RJ6 265 (1431655765 : Int32) ∈ gw := gw_of 409 (by decide +kernel) (by decide +kernel)
theorem kcJ6_266 : Cond.constant RJ6 266 (858993459 : Int32) ∈ gw := gw_of 410 (by decide +kernel) (by decide +kernel)
theorem kcJ6_267 : Cond.constant RJ6 267 (252645135 : Int32) ∈ gw := gw_of 411 (by decide +kernel) (by decide +kernel)
theorem kcX4_207 : Cond.constantLong RX4 207 (255 : Int64) ∈ gw := gw_of 556 (by decide +kernel) (by decide +kernel)
theorem kcX5_169 : Cond.constantLong RX5 169 (255 : Int64) ∈ gw := gw_of 848 (by decide +kernel) (by decide +kernel)
theorem kcL_78 : Cond.constantLong RL 78 (4294967295 : Int64) ∈ gw := gw_of 869 (by decide +kernel) (by decide +kernel)
end
section
/-! base of the walks: loops, booleans, small numbers -/
def bi : Bool → Int32
  | true => 1
  | false => 0
theorem bi_01 (b : Bool) : bi b = 0 ∨ bi b = 1 := by cases b <;> simp [bi]
theorem bi_0 (b : Bool) : bi b = 0 ↔ b = false := by cases b <;> simp [bi]
theorem bi_1 (b : Bool) : bi b = 1 ↔ b = true := by cases b <;> simp [bi]
theorem bt_f {b : Bool} (h : b = true) (c : b = false) : False := by rw [h] at c; cases c
theorem nI_inc (i : Nat) : nI i + Int32.ofInt 1 = nI (i + 1) := (nI_succ i).symm ▸ rfl
theorem nI_nge {i n : Nat} {x : Int32} (hx : x = nI n) (h : i < n) (hn : n < 2147483648) : ¬ x ≤ nI i := by subst hx; exact nI_ge h hn
theorem nI_lee {n : Nat} {x : Int32} (hx : x = nI n) : x ≤ nI n := by subst hx; exact Int32.le_refl _
/-- n rounds of a step -/
def lp {α : Type} (f : Nat → α → α) : Nat → α → α
  | 0, s => s
  | n + 1, s => f n (lp f n s)
section BW
variable {E : EE} {N nL : Nat} {own : String} {cc : ByteArray} {p : Program} {l : Launch} {e : Env} {R : Room} {s : State} {m : MethodId} {args : Array Value} {below : List Frame} {meth : Method} {c : Code} {cells slots : Nat} {Q : State → Prop} {I I2 : Mi} {F F2 : Mr} {pc : Nat} {ls ls2 : List (Option Value)} {st st2 : List Value}
theorem G_cast (k : G E N nL p l e R s m args below meth c cells slots Q I2 F2 pc ls2 st2) (hI : I = I2) (hF : F = F2) (hl : ls = ls2) (hs : st = st2) : G E N nL p l e R s m args below meth c cells slots Q I F pc ls st := by subst hI hF hl hs; exact k
theorem G_loop {n : Nat} (LS : Nat → List (Option Value)) (II : Nat → Mi) (FF : Nat → Mr) (hl : ls = LS 0) (hI : I = II 0) (hF : F = FF 0) (step : ∀ i, i < n → G E N nL p l e R s m args below meth c cells slots Q (II (i + 1)) (FF (i + 1)) pc (LS (i + 1)) st → G E N nL p l e R s m args below meth c cells slots Q (II i) (FF i) pc (LS i) st) (exit : G E N nL p l e R s m args below meth c cells slots Q (II n) (FF n) pc (LS n) st) : G E N nL p l e R s m args below meth c cells slots Q I F pc ls st := by
  subst hl hI hF
  have key : ∀ k i, i + k = n → G E N nL p l e R s m args below meth c cells slots Q (II i) (FF i) pc (LS i) st := by
    intro k
    induction k with
    | zero => intro i hi; rw [show i = n by omega]; exact exit
    | succ k ih => intro i hi; exact step i (by omega) (ih (i + 1) (by omega))
  exact key n 0 (by omega)
theorem G_loopI {n : Nat} (LS : Nat → List (Option Value)) (II : Nat → Mi) (FF : Nat → Mr) (Inv : Nat → Prop) (hl : ls = LS 0) (hI : I = II 0) (hF : F = FF 0) (h0 : Inv 0) (step : ∀ i, i < n → Inv i → (Inv (i + 1) → G E N nL p l e R s m args below meth c cells slots Q (II (i + 1)) (FF (i + 1)) pc (LS (i + 1)) st) → G E N nL p l e R s m args below meth c cells slots Q (II i) (FF i) pc (LS i) st) (exit : Inv n → G E N nL p l e R s m args below meth c cells slots Q (II n) (FF n) pc (LS n) st) : G E N nL p l e R s m args below meth c cells slots Q I F pc ls st := by
  subst hl hI hF
  have key : ∀ k i, i + k = n → Inv i → G E N nL p l e R s m args below meth c cells slots Q (II i) (FF i) pc (LS i) st := by
    intro k
    induction k with
    | zero => intro i hi hv; rw [show i = n by omega] at hv ⊢; exact exit hv
    | succ k ih => intro i hi hv; exact step i (by omega) hv (ih (i + 1) (by omega))
  exact key n 0 (by omega) h0
theorem G_forget (i : Nat) (k : G E N nL p l e R s m args below meth c cells slots Q I F pc (ls.set i none) st) : G E N nL p l e R s m args below meth c cells slots Q I F pc ls st := fun h hn H locs la hP hS hl => k h (by simp [hn]) H locs la hP hS ⟨hl.1, hl.2.1, fun q hq => hl.2.2 q (by
  obtain ⟨j, v⟩ := q
  have h1 := ((lo_mem _ 0 j v).mp hq).2
  refine (lo_mem _ 0 j v).mpr ⟨Nat.zero_le _, ?_⟩
  rw [Nat.sub_zero, List.getElem?_set] at h1
  rw [Nat.sub_zero]
  split at h1
  · split at h1 <;> cases h1
  · exact h1)⟩
theorem g_ifeq_b (C : Cx E own cc nL p s m args meth c) {b : Bool} {off : Int} {tgt : Nat} (d : decode cc pc = .ok (.ifCond .eq off, 3)) (ht : (pc : Int) + off = (tgt : Int)) (kt : b = false → G E N nL p l e R s m args below meth c cells slots Q I F tgt ls st) (kf : b = true → G E N nL p l e R s m args below meth c cells slots Q I F (pc + 3) ls st) : G E N nL p l e R s m args below meth c cells slots Q I F pc ls (.int (bi b) :: st) := g_if_eq C d ht (fun h => kt ((bi_0 b).mp h)) (fun h => kf (by cases b <;> simp_all [bi]))
theorem g_ifne_b (C : Cx E own cc nL p s m args meth c) {b : Bool} {off : Int} {tgt : Nat} (d : decode cc pc = .ok (.ifCond .ne off, 3)) (ht : (pc : Int) + off = (tgt : Int)) (kt : b = true → G E N nL p l e R s m args below meth c cells slots Q I F tgt ls st) (kf : b = false → G E N nL p l e R s m args below meth c cells slots Q I F (pc + 3) ls st) : G E N nL p l e R s m args below meth c cells slots Q I F pc ls (.int (bi b) :: st) := g_if_ne C d ht (fun h => kt (by cases b <;> simp_all [bi])) (fun h => kf ((bi_0 b).mp h))
theorem g_zret_b (C : Cx E own cc nL p s m args meth c) {P : Option Value → Mi → Mr → Prop} {b : Bool} (hr : meth.sig.returnType = some .boolean) (d : decode cc pc = .ok (.ireturn, 1)) (hp : P (some (.int (bi b))) I F) : G E N nL p l e R s m args below meth c cells slots (MQ below (QC E N P) args s cells slots (fun q => pb E ≤ q)) I F pc ls  [.int (bi b)] := g_zret C hr (bi_01 b) d hp
theorem g_zret_0 (C : Cx E own cc nL p s m args meth c) {P : Option Value → Mi → Mr → Prop} (hr : meth.sig.returnType = some .boolean) (d : decode cc pc = .ok (.ireturn, 1)) (hp : P (some (.int 0)) I F) : G E N nL p l e R s m args below meth c cells slots (MQ below (QC E N P) args s cells slots (fun q => pb E ≤ q)) I F pc ls  [.int 0] := g_zret C hr (Or.inl rfl) d hp
theorem g_zret_1 (C : Cx E own cc nL p s m args meth c) {P : Option Value → Mi → Mr → Prop} (hr : meth.sig.returnType = some .boolean) (d : decode cc pc = .ok (.ireturn, 1)) (hp : P (some (.int 1)) I F) : G E N nL p l e R s m args below meth c cells slots (MQ below (QC E N P) args s cells slots (fun q => pb E ≤ q)) I F pc ls  [.int 1] := g_zret C hr (Or.inr rfl) d hp
theorem g_iald_j (C : Cx E own cc nL p s m args meth c) {k n : Nat} (ha : ar N k 7 n) (j : Nat) {x : Int32} (hx : x = nI j) (hj : j < n) (hn : n < 2147483648) (d : decode cc pc = .ok (.iaload, 1)) (kk : G E N nL p l e R s m args below meth c cells slots Q I F (pc + 1) ls (.int (I k j) :: st)) : G E N nL p l e R s m args below meth c cells slots Q I F pc ls (.int x :: rf E k :: st) := by
  subst hx
  exact g_iald C ha (vp_in_nI hj hn) d (by rw [show ix (nI j) = j from nI_clamp (by omega)]; exact kk)
theorem g_cald_j (C : Cx E own cc nL p s m args meth c) {k n : Nat} (ha : ar N k 6 n) (j : Nat) {x : Int32} (hx : x = nI j) (hj : j < n) (hn : n < 2147483648) (d : decode cc pc = .ok (.caload, 1)) (kk : G E N nL p l e R s m args below meth c cells slots Q I F (pc + 1) ls (.int (I k j) :: st)) : G E N nL p l e R s m args below meth c cells slots Q I F pc ls (.int x :: rf E k :: st) := by
  subst hx
  exact g_cald C ha (vp_in_nI hj hn) d (by rw [show ix (nI j) = j from nI_clamp (by omega)]; exact kk)
theorem g_iast_j (C : Cx E own cc nL p s m args meth c) {k n : Nat} (ha : ar N k 7 n) (j : Nat) {x v : Int32} (hx : x = nI j) (hj : j < n) (hn : n < 2147483648) (d : decode cc pc = .ok (.iastore, 1)) (kk : G E N nL p l e R s m args below meth c cells slots Q (up I k j v) F (pc + 1) ls st) : G E N nL p l e R s m args below meth c cells slots Q I F pc ls (.int v :: .int x :: rf E k :: st) := by
  subst hx
  exact g_iast C ha (vp_in_nI hj hn) d (by rw [show ix (nI j) = j from nI_clamp (by omega)]; exact kk)
theorem g_cast_j (C : Cx E own cc nL p s m args meth c) {k n : Nat} (ha : ar N k 6 n) (j : Nat) {x v : Int32} (hx : x = nI j) (hj : j < n) (hn : n < 2147483648) (hv : vp_nar .char v = v) (d : decode cc pc = .ok (.castore, 1)) (kk : G E N nL p l e R s m args below meth c cells slots Q (up I k j v) F (pc + 1) ls st) : G E N nL p l e R s m args below meth c cells slots Q I F pc ls (.int v :: .int x :: rf E k :: st) := by
  subst hx
  exact g_cast C ha (vp_in_nI hj hn) hv d (by rw [show ix (nI j) = j from nI_clamp (by omega)]; exact kk)
end BW
/-- a contract with one outcome, out of a walk -/
theorem CtF_of {l : Launch} {E : EE} {M : MD} {av : List Value} {N : Nat} {I : Mi} {F : Mr} {N2 : Nat} {r : Option Value} {I2 : Mi} {F2 : Mr} (L : List (Option Value)) (hpl : plainName M.1.cls = true) (hmc : N2 = N + M.2.2.2.2.cells) (hle : (la0 av).length ≤ M.2.2.1) (hL : la0 av ++ List.replicate (M.2.2.1 - (la0 av).length) none = L)
    (body : ∀ (p : Program) (e : Env) (s : State) (m : MethodId) (args : Array Value) (below : List Frame) (meth : Method) (c : Code), Cx E M.1.cls M.2.1 M.2.2.1 p s m args meth c → meth.sig.returnType = M.2.2.2.1 → meth.name = M.1.name → G E N M.2.2.1 p l e M.2.2.2.2 s m args below meth c 0 0 (MQ below (QC E N2 (fun r9 I9 F9 => r9 = r ∧ I9 = I2 ∧ F9 = F2)) args s M.2.2.2.2.cells M.2.2.2.2.slots (fun q => pb E ≤ q)) I F 0 L []) : CtF l E M av N I F N2 r I2 F2 := Ct_of hpl hmc hle (fun p e s m args below meth c C hr hn => by rw [hL]; exact body p e s m args below meth c C hr hn)
/-- a chip at number a: itself, its ten rows behind it -/
def CH (N : Nat) (F : Mr) (a : Nat) : Prop := ob N a 0 ∧ (∀ j, 1 ≤ j → j ≤ 10 → ar N (a + j) 7 8) ∧ (F a 3 = some (a + 1) ∧ F a 4 = some (a + 2) ∧ F a 5 = some (a + 3) ∧ F a 6 = some (a + 4) ∧ F a 7 = some (a + 5) ∧ F a 8 = some (a + 6) ∧ F a 9 = some (a + 7) ∧ F a 10 = some (a + 8) ∧ F a 11 = some (a + 9) ∧ F a 18 = some (a + 10))
theorem CH.o {N : Nat} {F : Mr} {a : Nat} (h : CH N F a) : ob N a 0 := h.1
theorem CH.r1 {N : Nat} {F : Mr} {a : Nat} (h : CH N F a) : ar N (a + 1) 7 8 := h.2.1 1 (by decide) (by decide)
theorem CH.f3 {N : Nat} {F : Mr} {a : Nat} (h : CH N F a) : F a 3 = some (a + 1) := h.2.2.1
theorem CH.r2 {N : Nat} {F : Mr} {a : Nat} (h : CH N F a) : ar N (a + 2) 7 8 := h.2.1 2 (by decide) (by decide)
theorem CH.f4 {N : Nat} {F : Mr} {a : Nat} (h : CH N F a) : F a 4 = some (a + 2) := h.2.2.2.1
theorem CH.r3 {N : Nat} {F : Mr} {a : Nat} (h : CH N F a) : ar N (a + 3) 7 8 := h.2.1 3 (by decide) (by decide)
theorem CH.f5 {N : Nat} {F : Mr} {a : Nat} (h : CH N F a) : F a 5 = some (a + 3) := h.2.2.2.2.1
theorem CH.r4 {N : Nat} {F : Mr} {a : Nat} (h : CH N F a) : ar N (a + 4) 7 8 := h.2.1 4 (by decide) (by decide)
theorem CH.f6 {N : Nat} {F : Mr} {a : Nat} (h : CH N F a) : F a 6 = some (a + 4) := h.2.2.2.2.2.1
theorem CH.r5 {N : Nat} {F : Mr} {a : Nat} (h : CH N F a) : ar N (a + 5) 7 8 := h.2.1 5 (by decide) (by decide)
theorem CH.f7 {N : Nat} {F : Mr} {a : Nat} (h : CH N F a) : F a 7 = some (a + 5) := h.2.2.2.2.2.2.1
theorem CH.r6 {N : Nat} {F : Mr} {a : Nat} (h : CH N F a) : ar N (a + 6) 7 8 := h.2.1 6 (by decide) (by decide)
theorem CH.f8 {N : Nat} {F : Mr} {a : Nat} (h : CH N F a) : F a 8 = some (a + 6) := h.2.2.2.2.2.2.2.1
theorem CH.r7 {N : Nat} {F : Mr} {a : Nat} (h : CH N F a) : ar N (a + 7) 7 8 := h.2.1 7 (by decide) (by decide)
theorem CH.f9 {N : Nat} {F : Mr} {a : Nat} (h : CH N F a) : F a 9 = some (a + 7) := h.2.2.2.2.2.2.2.2.1
theorem CH.r8 {N : Nat} {F : Mr} {a : Nat} (h : CH N F a) : ar N (a + 8) 7 8 := h.2.1 8 (by decide) (by decide)
theorem CH.f10 {N : Nat} {F : Mr} {a : Nat} (h : CH N F a) : F a 10 = some (a + 8) := h.2.2.2.2.2.2.2.2.2.1
theorem CH.r9 {N : Nat} {F : Mr} {a : Nat} (h : CH N F a) : ar N (a + 9) 7 8 := h.2.1 9 (by decide) (by decide)
theorem CH.f11 {N : Nat} {F : Mr} {a : Nat} (h : CH N F a) : F a 11 = some (a + 9) := h.2.2.2.2.2.2.2.2.2.2.1
theorem CH.r10 {N : Nat} {F : Mr} {a : Nat} (h : CH N F a) : ar N (a + 10) 7 8 := h.2.1 10 (by decide) (by decide)
theorem CH.f18 {N : Nat} {F : Mr} {a : Nat} (h : CH N F a) : F a 18 = some (a + 10) := h.2.2.2.2.2.2.2.2.2.2.2
end
section
/-! Chip: what its methods do to the memory (a: the chip's number; a+1 rises, +2 loads, +3 reads, +4 states, +5 values, +6 kept, +7 left, +8 noise, +9 queue, +10 told) -/
def isP (x : Int32) : Bool := decide (¬ x < 0) && decide (¬ (8 : Int32) ≤ x)
theorem isP_in {x : Int32} (h : isP x = true) : vp_in x 8 := by
  simp only [isP, Bool.and_eq_true, decide_eq_true_eq] at h
  intro q
  rcases q with q | q
  · exact h.1 q
  · refine h.2 ?_
    obtain ⟨j, hj, rfl⟩ := nI_of h.1
    rw [nI_clamp hj] at q
    exact nI_le (a := 8) q hj
theorem isP_n {i : Nat} (h : i < 8) : isP (nI i) = true := by
  simp only [isP, Bool.and_eq_true, decide_eq_true_eq]
  exact ⟨nI_pos (by omega), nI_ge (b := 8) h (by decide)⟩
def isI (s i : Int32) : Bool := decide (¬ ((s >>> (i &&& 31)) &&& 1) = 0)
def sh1 (i : Nat) : Int32 := (1 : Int32) <<< (nI i &&& 31)
def clrS (I : Mi) (a : Nat) : Mi := up (up (up (up (up (up (up I a 0 0) a 1 0) a 2 0) a 12 0) a 15 0) a 16 0) a 17 0
def clrB (a i : Nat) (I : Mi) : Mi := up (up (up (up (up (up (up (up (up I (a + 1) i 0) (a + 2) i 0) (a + 3) i 0) (a + 4) i (-1)) (a + 5) i 0) (a + 6) i 0) (a + 7) i 0) (a + 8) i 0) (a + 9) i 0
def clearC (I : Mi) (a : Nat) : Mi := lp (clrB a) 8 (clrS I a)
def setC (I : Mi) (a : Nat) (x : Int32) : Int32 := lp (fun i acc => if I (a + 4) i = x then acc ||| sh1 i else acc) 8 0
def hasC (I : Mi) (a : Nat) (x : Int32) : Bool := isP x && decide (¬ I a 0 ≤ x)
def addC (I : Mi) (a n : Nat) (iso keep : Bool) (r d m : Int32) : Mi :=
  let I1 := up I a 0 (I a 0 + 1)
  let I2 := if iso = true then up I1 a 1 (I1 a 1 ||| sh1 n) else I1
  let I3 := if keep = true then up I2 a 2 (I2 a 2 ||| sh1 n) else I2
  up (up (up (up I3 (a + 1) n r) (a + 2) n d) (a + 3) n m) (a + 4) n 0
def orR (I : Mi) (a : Nat) : Int32 := lp (fun i acc => acc ||| I (a + 3) i) 8 0
def readC (I : Mi) (a : Nat) (x : Int32) : Int32 := lp (fun i acc => if isI (I (a + 3) i) x = true then acc ||| sh1 i else acc) 8 0
def heardC (I : Mi) (a i : Nat) : Bool := decide (I (a + 4) i = 0) || decide (I (a + 4) i = 1)
def tellC (I : Mi) (a i : Nat) : Int32 := if heardC I a i = true then I (a + 5) i else if isI (I a 1) (nI i) = true then 0 else 255
def inqC (I : Mi) (a : Nat) (x : Int32) : Int32 := if isP x = true then if I a 12 ≤ x then -1 else I (a + 9) (ix x) else -1
def pqC (I : Mi) (a : Nat) (x : Int32) : Nat → Nat → Int32
  | 0, _ => -6
  | n + 1, i => if I a 12 ≤ nI i then -6 else if I (a + 9) i = x then nI i else pqC I a x n (i + 1)
def rloadC (I : Mi) (a : Nat) : Int32 := lp (fun i acc => if I (a + 4) i = 4 then acc + I (a + 2) i else acc) 8 0
def sumC (I : Mi) (k : Nat) : Int32 := lp (fun i acc => acc + I k i) 8 0
def bcJ (x : Int32) : Int32 :=
  let us := fun (z : Int32) (k : Int32) => (z.toUInt32 >>> (k.toUInt32 &&& Int32.toUInt32 31)).toInt32
  let x1 := x - (us x 1 &&& 1431655765)
  let x2 := (x1 &&& 858993459) + (us x1 2 &&& 858993459)
  let x3 := (x2 + us x2 4) &&& 252645135
  let x4 := x3 + us x3 8
  let x5 := x4 + us x4 16
  x5 &&& 63
def restC (I : Mi) (a : Nat) : Nat → Nat → Bool
  | 0, _ => true
  | n + 1, i => if I (a + 4) i = 1 then false else if I (a + 4) i = 3 then false else if I (a + 4) i = 4 then false else restC I a n (i + 1)
def otwC (I : Mi) (a i : Nat) : Mi :=
  if isP (I a 12) = true then
    let I1 := up I (a + 4) i 3
    let I2 := up I1 (a + 9) (ix (I1 a 12)) (nI i)
    up I2 a 12 (I2 a 12 + 1)
  else I
def oswC (I : Mi) (a : Nat) : Mi := lp (fun i I => if I (a + 4) i = 2 then otwC I a i else I) 8 I
def sumTC (I : Mi) (a : Nat) (m : Int32) : Int32 := lp (fun i acc => if isI m (nI i) = true then acc + I (a + 10) i else acc) 8 0
def ro1C (a i : Nat) (p : Mi × Int32) : Mi × Int32 :=
  let I1 := up p.1 (a + 10) i (tellC p.1 a i)
  (I1, if heardC I1 a i = true then p.2 else if isI (I1 a 1) (nI i) = true then p.2 else p.2 ||| sh1 i)
def ro2C (a : Nat) (nz : Int32) (i : Nat) (I : Mi) : Mi :=
  if I (a + 4) i = 0 then
    let I1 := up I (a + 5) i ((I (a + 5) i + sumTC I a (I (a + 3) i)) &&& 255)
    up I1 (a + 8) i (I1 (a + 8) i + bcJ (I1 (a + 3) i &&& nz))
  else I
def ro1R (I : Mi) (a : Nat) : Mi × Int32 := lp (ro1C a) 8 (I, 0)
def rdoC (I : Mi) (a : Nat) : Mi := lp (ro2C a (ro1R I a).2) 8 (ro1R I a).1
def keepC (I : Mi) (a i : Nat) : Mi := if isI (I a 2) (nI i) = true then up (up I (a + 6) i (I (a + 5) i)) (a + 5) i 0 else if I (a + 5) i ≤ 0 then up I (a + 5) i 0 else up (up I a 16 (I a 16 + 1)) (a + 5) i 0
def fallC (I : Mi) (a : Nat) : Mi := lp (fun i I => if I (a + 4) i = 1 then keepC (up I (a + 4) i 2) a i else I) 8 I
def endRC (I : Mi) (a i : Nat) : Mi :=
  let I1 := up I (a + 4) i 0
  if isI (I1 a 2) (nI i) = true then up I1 (a + 5) i (I1 (a + 6) i) else I1
def riB (a i : Nat) (I : Mi) : Mi := if I (a + 4) i = 4 then (if 0 < up I (a + 7) i (I (a + 7) i - 1) (a + 7) i then up I (a + 7) i (I (a + 7) i - 1) else endRC (up I (a + 7) i (I (a + 7) i - 1)) a i) else I
def riseC (I : Mi) (a : Nat) : Mi := lp (riB a) 8 I
def rbaC (I : Mi) (a : Nat) : Int32 := lp (fun i acc => if I (a + 4) i = 0 then acc ||| I (a + 3) i else acc) 8 0
def askC (I : Mi) (a : Nat) : Mi := lp (fun i J => if J (a + 4) i = 2 then (if isI (rbaC I a) (nI i) = true then otwC J a i else J) else J) 8 I
def brA (a j : Nat) (p : Mi × Int32 × Int32) : Mi × Int32 × Int32 := (up (up p.1 (a + 4) j 4) (a + 7) j (up p.1 (a + 4) j 4 (a + 1) j), p.2.1 + p.1 (a + 2) j, p.2.2)
def brB (a k : Nat) (p : Mi × Int32 × Int32) : Mi × Int32 × Int32 :=
  if isP (p.1 (a + 9) k) = true then
    if p.2.1 = 0 then brA a (ix (p.1 (a + 9) k)) p
    else if p.1 a 13 < p.2.1 + p.1 (a + 2) (ix (p.1 (a + 9) k)) then
      if isP p.2.2 = true then (up p.1 (a + 9) (ix p.2.2) (p.1 (a + 9) k), p.2.1, p.2.2 + 1) else p
    else brA a (ix (p.1 (a + 9) k)) p
  else p
theorem brB_12 (a : Nat) (p : Mi × Int32 × Int32) : ∀ k, (lp (brB a) k p).1 a 12 = p.1 a 12
  | 0 => rfl
  | k + 1 => by
    have h := brB_12 a p k
    simp only [lp, brB, brA]
    split
    · split
      · simp only [up]; rw [if_neg (by omega), if_neg (by omega)]; exact h
      · split
        · split
          · simp only [up]; rw [if_neg (by omega)]; exact h
          · exact h
        · simp only [up]; rw [if_neg (by omega), if_neg (by omega)]; exact h
    · exact h
def rnd (v : Int32) : Nat := min 8 (ix v)
theorem rnd_lt {v : Int32} {i : Nat} (h : i < rnd v) : ¬ v ≤ nI i := by
  intro q
  have h1 : i < ix v := by unfold rnd at h; omega
  have h8 : i < 8 := by unfold rnd at h; omega
  rcases Int32.lt_or_le v 0 with h0 | h0
  · have h2 : v.toInt < 0 := by have := Int32.lt_iff_toInt_lt.mp h0; simpa using this
    have h3 : ix v = 0 := by show v.toInt.toNat = 0; omega
    omega
  · obtain ⟨j, hj, rfl⟩ := nI_of (Int32.not_lt.mpr h0)
    rw [show ix (nI j) = j from nI_clamp hj] at h1
    exact nI_ge h1 hj q
theorem rnd_ge {v : Int32} (h : ¬ (8 : Int32) ≤ nI (rnd v)) : v ≤ nI (rnd v) := by
  have h8 : rnd v < 8 := by
    rcases Nat.lt_or_ge (rnd v) 8 with q | q
    · exact q
    · exact absurd (nI_le (a := 8) q (by unfold rnd; omega)) h
  have e : rnd v = ix v := by unfold rnd at h8 ⊢; omega
  rw [e]
  rcases Int32.lt_or_le v 0 with h0 | h0
  · exact Int32.le_trans (Int32.le_of_lt h0) (nI_pos' (by unfold rnd at h8; omega))
  · obtain ⟨j, hj, rfl⟩ := nI_of (Int32.not_lt.mpr h0)
    rw [show ix (nI j) = j from nI_clamp hj]
    exact Int32.le_refl _
def begR (I : Mi) (a : Nat) (k : Nat) : Mi × Int32 × Int32 := lp (brB a) k (I, rloadC I a, 0)
theorem begR_s (I : Mi) (a k : Nat) : begR I a (k + 1) = brB a k (begR I a k) := rfl
def begC (I : Mi) (a : Nat) : Mi := up (begR I a (rnd (I a 12))).1 a 12 (begR I a (rnd (I a 12))).2.2
def mvC (I : Mi) (a : Nat) : Mi := if riseC (fallC I a) a a 14 = 1 then begC (askC (riseC (fallC I a) a) a) a else begC (riseC (fallC I a) a) a
def tickC (I : Mi) (a : Nat) : Mi :=
  let I1 := mvC (rdoC I a) a
  let I2 := up I1 a 15 (I1 a 15 + 1)
  up I2 a 17 (if I2 a 17 < rloadC I2 a then rloadC I2 a else I2 a 17)
def passC (I : Mi) (a n : Nat) : Mi := lp (fun _ J => tickC J a) n I
def cpyS (I : Mi) (a b : Nat) : Mi :=
  let I1 := up I a 0 (I b 0)
  let I2 := up I1 a 1 (I1 b 1)
  let I3 := up I2 a 2 (I2 b 2)
  let I4 := up I3 a 12 (I3 b 12)
  let I5 := up I4 a 13 (I4 b 13)
  let I6 := up I5 a 14 (I5 b 14)
  let I7 := up I6 a 15 (I6 b 15)
  let I8 := up I7 a 16 (I7 b 16)
  up I8 a 17 (I8 b 17)
def cpyB (a b i : Nat) (I : Mi) : Mi :=
  let I1 := up I (a + 1) i (I (b + 1) i)
  let I2 := up I1 (a + 2) i (I1 (b + 2) i)
  let I3 := up I2 (a + 3) i (I2 (b + 3) i)
  let I4 := up I3 (a + 4) i (I3 (b + 4) i)
  let I5 := up I4 (a + 5) i (I4 (b + 5) i)
  let I6 := up I5 (a + 6) i (I5 (b + 6) i)
  let I7 := up I6 (a + 7) i (I6 (b + 7) i)
  let I8 := up I7 (a + 8) i (I7 (b + 8) i)
  up I8 (a + 9) i (I8 (b + 9) i)
def copyC (I : Mi) (a b : Nat) : Mi := lp (cpyB a b) 8 (cpyS I a b)
end
section
set_option maxRecDepth 100000 in
set_option maxHeartbeats 4000000 in
theorem tX0_isPlace {l : Launch} {E : EE} {N : Nat} {I : Mi} {F : Mr} (x : Int32)  : CtF l E mX0_isPlace [.int x] N I F N (some (.int (bi (isP x)))) I F := by
  refine CtF_of [some (.int x)] (by decide) rfl (Nat.le_of_ble_eq_true rfl) rfl (fun p e s m args below meth c C hr hname => ?_)
  refine g_iload_n C dX0_isPlace_0 rfl rfl ?_
  refine g_if_lt C (tgt := 14) dX0_isPlace_1 (by decide) (fun c1 => ?_) (fun c1 => ?_)
  · skip
    refine g_iconst C (v := 0) dX0_isPlace_14 (by decide) ?_
    exact g_zret_0 C hr dX0_isPlace_15 ⟨by simp [isP, bi, *], rfl, rfl⟩
  · skip
    refine g_iload_n C dX0_isPlace_4 rfl rfl ?_
    refine g_bipush C (v := 8) dX0_isPlace_5 (by decide) ?_
    refine g_icmp_ge C (tgt := 14) dX0_isPlace_7 (by decide) (fun c7 => ?_) (fun c7 => ?_)
    · skip
      refine g_iconst C (v := 0) dX0_isPlace_14 (by decide) ?_
      exact g_zret_0 C hr dX0_isPlace_15 ⟨by simp [isP, bi, *], rfl, rfl⟩
    · skip
      refine g_iconst C (v := 1) dX0_isPlace_10 (by decide) ?_
      refine g_goto C (tgt := 15) dX0_isPlace_11 (by decide) ?_
      exact g_zret_1 C hr dX0_isPlace_15 ⟨by simp [isP, bi, *], rfl, rfl⟩

set_option maxRecDepth 100000 in
set_option maxHeartbeats 4000000 in
theorem tX4_isIn {l : Launch} {E : EE} {N : Nat} {I : Mi} {F : Mr} (x y : Int32)  : CtF l E mX4_isIn [.int x, .int y] N I F N (some (.int (bi (isI x y)))) I F := by
  refine CtF_of [some (.int x), some (.int y)] (by decide) rfl (Nat.le_of_ble_eq_true rfl) rfl (fun p e s m args below meth c C hr hname => ?_)
  refine g_iload_n C dX4_isIn_0 rfl rfl ?_
  refine g_iload_n C dX4_isIn_1 rfl rfl ?_
  refine g_ishr C dX4_isIn_2 ?_
  refine g_iconst C (v := 1) dX4_isIn_3 (by decide) ?_
  refine g_iand C dX4_isIn_4 ?_
  refine g_if_eq C (tgt := 12) dX4_isIn_5 (by decide) (fun c5 => ?_) (fun c5 => ?_)
  · skip
    refine g_iconst C (v := 0) dX4_isIn_12 (by decide) ?_
    exact g_zret_0 C hr dX4_isIn_13 ⟨by simp [isI, bi, *], rfl, rfl⟩
  · skip
    refine g_iconst C (v := 1) dX4_isIn_8 (by decide) ?_
    refine g_goto C (tgt := 13) dX4_isIn_9 (by decide) ?_
    exact g_zret_1 C hr dX4_isIn_13 ⟨by simp [isI, bi, *], rfl, rfl⟩

set_option maxRecDepth 100000 in
set_option maxHeartbeats 4000000 in
theorem tX0_has {l : Launch} {E : EE} {N : Nat} {I : Mi} {F : Mr} {a : Nat} (ha : CH N F a) (hN : 0 < N) (x : Int32)  : CtF l E mX0_has [rf E a, .int x] N I F N (some (.int (bi (hasC I a x)))) I F := by
  refine CtF_of [some (rf E a), some (.int x)] (by decide) rfl (Nat.le_of_ble_eq_true rfl) rfl (fun p e s m args below meth c C hr hname => ?_)
  refine g_iload_n C dX0_has_0 rfl rfl ?_
  refine kX0_73 C hN (tX0_isPlace _) ⟨⟨Nat.le_of_ble_eq_true rfl, Nat.le_of_ble_eq_true rfl⟩, Nat.le_of_ble_eq_true rfl, Nat.le_of_ble_eq_true rfl⟩ (Nat.le_of_ble_eq_true rfl) dX0_has_1 ?_
  refine g_ifeq_b C (tgt := 19) dX0_has_4 (by decide) (fun c4 => ?_) (fun c4 => ?_)
  · skip
    refine g_iconst C (v := 0) dX0_has_19 (by decide) ?_
    exact g_zret_0 C hr dX0_has_20 ⟨by simp [hasC, bi, *], rfl, rfl⟩
  · skip
    refine g_iload_n C dX0_has_7 rfl rfl ?_
    refine g_aload_n C dX0_has_8 rfl rfl ?_
    refine gfX0_52 C ha.o dX0_has_9 ?_
    refine g_icmp_ge C (tgt := 19) dX0_has_12 (by decide) (fun c12 => ?_) (fun c12 => ?_)
    · skip
      refine g_iconst C (v := 0) dX0_has_19 (by decide) ?_
      exact g_zret_0 C hr dX0_has_20 ⟨by simp [hasC, bi, *], rfl, rfl⟩
    · skip
      refine g_iconst C (v := 1) dX0_has_15 (by decide) ?_
      refine g_goto C (tgt := 20) dX0_has_16 (by decide) ?_
      exact g_zret_1 C hr dX0_has_20 ⟨by simp [hasC, bi, *], rfl, rfl⟩

set_option maxRecDepth 100000 in
set_option maxHeartbeats 4000000 in
theorem tX0_islandsThatAre {l : Launch} {E : EE} {N : Nat} {I : Mi} {F : Mr} {a : Nat} (ha : CH N F a) (x : Int32)  : CtF l E mX0_islandsThatAre [rf E a, .int x] N I F N (some (.int (setC I a x))) I F := by
  refine CtF_of [some (rf E a), some (.int x), none, none] (by decide) rfl (Nat.le_of_ble_eq_true rfl) rfl (fun p e s m args below meth c C hr hname => ?_)
  refine g_iconst C (v := 0) dX0_islandsThatAre_0 (by decide) ?_
  refine g_istore_n C dX0_islandsThatAre_1 rfl (by decide) rfl ?_
  refine g_iconst C (v := 0) dX0_islandsThatAre_2 (by decide) ?_
  refine g_istore_n C dX0_islandsThatAre_3 rfl (by decide) rfl ?_
  refine G_loop (n := 8) (fun i => [some (rf E a), some (.int x), some (.int (lp (fun i acc => if I (a + 4) i = x then acc ||| sh1 i else acc) i 0)), some (.int (nI i))]) (fun i => I) (fun _ => F) rfl rfl rfl ?_ ?_
  · intro i4 hi4 ih4
    refine g_iload_n C dX0_islandsThatAre_4 rfl rfl ?_
    refine g_bipush C (v := 8) dX0_islandsThatAre_5 (by decide) ?_
    refine g_icmp_ge C (tgt := 32) dX0_islandsThatAre_7 (by decide) (fun c7 => absurd c7 (nI_nge rfl hi4 (by decide))) (fun _ => ?_)
    refine g_aload_n C dX0_islandsThatAre_10 rfl rfl ?_
    refine gfX0_21 C ha.o ha.f6 dX0_islandsThatAre_11 ?_
    refine g_iload_n C dX0_islandsThatAre_14 rfl rfl ?_
    refine g_iald_j C ha.r4 (i4) rfl hi4 (by decide) dX0_islandsThatAre_15 ?_
    refine g_iload_n C dX0_islandsThatAre_16 rfl rfl ?_
    refine g_icmp_ne C (tgt := 26) dX0_islandsThatAre_17 (by decide) (fun c17 => ?_) (fun c17 => ?_)
    · skip
      refine g_iinc C dX0_islandsThatAre_26 rfl (nI_inc _) (by decide) rfl ?_
      refine g_goto C (tgt := 4) dX0_islandsThatAre_29 (by decide) ?_
      exact G_cast ih4 rfl rfl (by first | rfl | (simp only [lp, c17, ↓reduceIte, Bool.false_eq_true, reduceCtorEq]; first | done | rfl)) rfl
    · skip
      refine g_iload_n C dX0_islandsThatAre_20 rfl rfl ?_
      refine g_iconst C (v := 1) dX0_islandsThatAre_21 (by decide) ?_
      refine g_iload_n C dX0_islandsThatAre_22 rfl rfl ?_
      refine g_ishl C dX0_islandsThatAre_23 ?_
      refine g_ior C dX0_islandsThatAre_24 ?_
      refine g_istore_n C dX0_islandsThatAre_25 rfl (by decide) rfl ?_
      refine g_iinc C dX0_islandsThatAre_26 rfl (nI_inc _) (by decide) rfl ?_
      refine g_goto C (tgt := 4) dX0_islandsThatAre_29 (by decide) ?_
      exact G_cast ih4 rfl rfl (by first | rfl | (simp only [lp, c17, ↓reduceIte, Bool.false_eq_true, reduceCtorEq]; first | done | rfl)) rfl
  · skip
    refine g_iload_n C dX0_islandsThatAre_4 rfl rfl ?_
    refine g_bipush C (v := 8) dX0_islandsThatAre_5 (by decide) ?_
    refine g_icmp_ge C (tgt := 32) dX0_islandsThatAre_7 (by decide) (fun _ => ?_) (fun c7 => absurd (nI_lee rfl) c7)
    refine g_iload_n C dX0_islandsThatAre_32 rfl rfl ?_
    exact g_iret C hr dX0_islandsThatAre_33 ⟨rfl, rfl, rfl⟩

set_option maxRecDepth 100000 in
set_option maxHeartbeats 4000000 in
theorem tX0_readersOf {l : Launch} {E : EE} {N : Nat} {I : Mi} {F : Mr} {a : Nat} (ha : CH N F a) (hN : 0 < N) (x : Int32)  : CtF l E mX0_readersOf [rf E a, .int x] N I F N (some (.int (readC I a x))) I F := by
  refine CtF_of [some (rf E a), some (.int x), none, none] (by decide) rfl (Nat.le_of_ble_eq_true rfl) rfl (fun p e s m args below meth c C hr hname => ?_)
  refine g_iconst C (v := 0) dX0_readersOf_0 (by decide) ?_
  refine g_istore_n C dX0_readersOf_1 rfl (by decide) rfl ?_
  refine g_iconst C (v := 0) dX0_readersOf_2 (by decide) ?_
  refine g_istore_n C dX0_readersOf_3 rfl (by decide) rfl ?_
  refine G_loop (n := 8) (fun i => [some (rf E a), some (.int x), some (.int (lp (fun i acc => if isI (I (a + 3) i) x = true then acc ||| sh1 i else acc) i 0)), some (.int (nI i))]) (fun i => I) (fun _ => F) rfl rfl rfl ?_ ?_
  · intro i4 hi4 ih4
    refine g_iload_n C dX0_readersOf_4 rfl rfl ?_
    refine g_bipush C (v := 8) dX0_readersOf_5 (by decide) ?_
    refine g_icmp_ge C (tgt := 35) dX0_readersOf_7 (by decide) (fun c7 => absurd c7 (nI_nge rfl hi4 (by decide))) (fun _ => ?_)
    refine g_aload_n C dX0_readersOf_10 rfl rfl ?_
    refine gfX0_18 C ha.o ha.f5 dX0_readersOf_11 ?_
    refine g_iload_n C dX0_readersOf_14 rfl rfl ?_
    refine g_iald_j C ha.r3 (i4) rfl hi4 (by decide) dX0_readersOf_15 ?_
    refine g_iload_n C dX0_readersOf_16 rfl rfl ?_
    refine kX0_77 C hN (tX4_isIn _ _) ⟨⟨Nat.le_of_ble_eq_true rfl, Nat.le_of_ble_eq_true rfl⟩, Nat.le_of_ble_eq_true rfl, Nat.le_of_ble_eq_true rfl⟩ (Nat.le_of_ble_eq_true rfl) dX0_readersOf_17 ?_
    refine g_ifeq_b C (tgt := 29) dX0_readersOf_20 (by decide) (fun c20 => ?_) (fun c20 => ?_)
    · skip
      refine g_iinc C dX0_readersOf_29 rfl (nI_inc _) (by decide) rfl ?_
      refine g_goto C (tgt := 4) dX0_readersOf_32 (by decide) ?_
      exact G_cast ih4 rfl rfl (by first | rfl | (simp only [lp, c20, ↓reduceIte, Bool.false_eq_true, reduceCtorEq]; first | done | rfl)) rfl
    · skip
      refine g_iload_n C dX0_readersOf_23 rfl rfl ?_
      refine g_iconst C (v := 1) dX0_readersOf_24 (by decide) ?_
      refine g_iload_n C dX0_readersOf_25 rfl rfl ?_
      refine g_ishl C dX0_readersOf_26 ?_
      refine g_ior C dX0_readersOf_27 ?_
      refine g_istore_n C dX0_readersOf_28 rfl (by decide) rfl ?_
      refine g_iinc C dX0_readersOf_29 rfl (nI_inc _) (by decide) rfl ?_
      refine g_goto C (tgt := 4) dX0_readersOf_32 (by decide) ?_
      exact G_cast ih4 rfl rfl (by first | rfl | (simp only [lp, c20, ↓reduceIte, Bool.false_eq_true, reduceCtorEq]; first | done | rfl)) rfl
  · skip
    refine g_iload_n C dX0_readersOf_4 rfl rfl ?_
    refine g_bipush C (v := 8) dX0_readersOf_5 (by decide) ?_
    refine g_icmp_ge C (tgt := 35) dX0_readersOf_7 (by decide) (fun _ => ?_) (fun c7 => absurd (nI_lee rfl) c7)
    refine g_iload_n C dX0_readersOf_35 rfl rfl ?_
    exact g_iret C hr dX0_readersOf_36 ⟨rfl, rfl, rfl⟩

set_option maxRecDepth 100000 in
set_option maxHeartbeats 4000000 in
theorem tX0_hasAllThatAreRead {l : Launch} {E : EE} {N : Nat} {I : Mi} {F : Mr} {a : Nat} (ha : CH N F a)  : CtF l E mX0_hasAllThatAreRead [rf E a] N I F N (some (.int (bi (decide (orR I a >>> (I a 0 &&& 31) = 0))))) I F := by
  refine CtF_of [some (rf E a), none, none] (by decide) rfl (Nat.le_of_ble_eq_true rfl) rfl (fun p e s m args below meth c C hr hname => ?_)
  refine g_iconst C (v := 0) dX0_hasAllThatAreRead_0 (by decide) ?_
  refine g_istore_n C dX0_hasAllThatAreRead_1 rfl (by decide) rfl ?_
  refine g_iconst C (v := 0) dX0_hasAllThatAreRead_2 (by decide) ?_
  refine g_istore_n C dX0_hasAllThatAreRead_3 rfl (by decide) rfl ?_
  refine G_loop (n := 8) (fun i => [some (rf E a), some (.int (lp (fun i acc => acc ||| I (a + 3) i) i 0)), some (.int (nI i))]) (fun i => I) (fun _ => F) rfl rfl rfl ?_ ?_
  · intro i4 hi4 ih4
    refine g_iload_n C dX0_hasAllThatAreRead_4 rfl rfl ?_
    refine g_bipush C (v := 8) dX0_hasAllThatAreRead_5 (by decide) ?_
    refine g_icmp_ge C (tgt := 25) dX0_hasAllThatAreRead_7 (by decide) (fun c7 => absurd c7 (nI_nge rfl hi4 (by decide))) (fun _ => ?_)
    refine g_iload_n C dX0_hasAllThatAreRead_10 rfl rfl ?_
    refine g_aload_n C dX0_hasAllThatAreRead_11 rfl rfl ?_
    refine gfX0_18 C ha.o ha.f5 dX0_hasAllThatAreRead_12 ?_
    refine g_iload_n C dX0_hasAllThatAreRead_15 rfl rfl ?_
    refine g_iald_j C ha.r3 (i4) rfl hi4 (by decide) dX0_hasAllThatAreRead_16 ?_
    refine g_ior C dX0_hasAllThatAreRead_17 ?_
    refine g_istore_n C dX0_hasAllThatAreRead_18 rfl (by decide) rfl ?_
    refine g_iinc C dX0_hasAllThatAreRead_19 rfl (nI_inc _) (by decide) rfl ?_
    refine g_goto C (tgt := 4) dX0_hasAllThatAreRead_22 (by decide) ?_
    exact G_cast ih4 rfl rfl (by first | rfl | (simp only [lp, lp, ↓reduceIte, Bool.false_eq_true, reduceCtorEq]; first | done | rfl)) rfl
  · skip
    refine g_iload_n C dX0_hasAllThatAreRead_4 rfl rfl ?_
    refine g_bipush C (v := 8) dX0_hasAllThatAreRead_5 (by decide) ?_
    refine g_icmp_ge C (tgt := 25) dX0_hasAllThatAreRead_7 (by decide) (fun _ => ?_) (fun c7 => absurd (nI_lee rfl) c7)
    refine g_iload_n C dX0_hasAllThatAreRead_25 rfl rfl ?_
    refine g_aload_n C dX0_hasAllThatAreRead_26 rfl rfl ?_
    refine gfX0_52 C ha.o dX0_hasAllThatAreRead_27 ?_
    refine g_ishr C dX0_hasAllThatAreRead_30 ?_
    refine g_if_ne C (tgt := 38) dX0_hasAllThatAreRead_31 (by decide) (fun c31 => ?_) (fun c31 => ?_)
    · skip
      change ¬ (orR I a >>> (I a 0 &&& 31)) = 0 at c31
      refine g_iconst C (v := 0) dX0_hasAllThatAreRead_38 (by decide) ?_
      exact g_zret_0 C hr dX0_hasAllThatAreRead_39 ⟨by simp [bi, c31], rfl, rfl⟩
    · skip
      change (orR I a >>> (I a 0 &&& 31)) = 0 at c31
      refine g_iconst C (v := 1) dX0_hasAllThatAreRead_34 (by decide) ?_
      refine g_goto C (tgt := 39) dX0_hasAllThatAreRead_35 (by decide) ?_
      exact g_zret_1 C hr dX0_hasAllThatAreRead_39 ⟨by simp [bi, c31], rfl, rfl⟩

set_option maxRecDepth 100000 in
set_option maxHeartbeats 4000000 in
theorem tX0_isHeard {l : Launch} {E : EE} {N : Nat} {I : Mi} {F : Mr} {a : Nat} (ha : CH N F a) (hN : 0 < N) {i : Nat} (hi : i < 8)  : CtF l E mX0_isHeard [rf E a, .int (nI i)] N I F N (some (.int (bi (heardC I a i)))) I F := by
  refine CtF_of [some (rf E a), some (.int (nI i))] (by decide) rfl (Nat.le_of_ble_eq_true rfl) rfl (fun p e s m args below meth c C hr hname => ?_)
  refine g_iload_n C dX0_isHeard_0 rfl rfl ?_
  refine kX0_73 C hN (tX0_isPlace _) ⟨⟨Nat.le_of_ble_eq_true rfl, Nat.le_of_ble_eq_true rfl⟩, Nat.le_of_ble_eq_true rfl, Nat.le_of_ble_eq_true rfl⟩ (Nat.le_of_ble_eq_true rfl) dX0_isHeard_1 ?_
  refine g_ifeq_b C (tgt := 30) dX0_isHeard_4 (by decide) (fun c4 => (bt_f (isP_n hi) c4).elim) (fun _ => ?_)
  refine g_aload_n C dX0_isHeard_7 rfl rfl ?_
  refine gfX0_21 C ha.o ha.f6 dX0_isHeard_8 ?_
  refine g_iload_n C dX0_isHeard_11 rfl rfl ?_
  refine g_iald_j C ha.r4 (i) rfl hi (by decide) dX0_isHeard_12 ?_
  refine g_if_eq C (tgt := 26) dX0_isHeard_13 (by decide) (fun c13 => ?_) (fun c13 => ?_)
  · skip
    refine g_iconst C (v := 1) dX0_isHeard_26 (by decide) ?_
    refine g_goto C (tgt := 31) dX0_isHeard_27 (by decide) ?_
    exact g_zret_1 C hr dX0_isHeard_31 ⟨by simp [heardC, bi, *], rfl, rfl⟩
  · skip
    refine g_aload_n C dX0_isHeard_16 rfl rfl ?_
    refine gfX0_21 C ha.o ha.f6 dX0_isHeard_17 ?_
    refine g_iload_n C dX0_isHeard_20 rfl rfl ?_
    refine g_iald_j C ha.r4 (i) rfl hi (by decide) dX0_isHeard_21 ?_
    refine g_iconst C (v := 1) dX0_isHeard_22 (by decide) ?_
    refine g_icmp_ne C (tgt := 30) dX0_isHeard_23 (by decide) (fun c23 => ?_) (fun c23 => ?_)
    · skip
      refine g_iconst C (v := 0) dX0_isHeard_30 (by decide) ?_
      exact g_zret_0 C hr dX0_isHeard_31 ⟨by simp [heardC, bi, *], rfl, rfl⟩
    · skip
      refine g_iconst C (v := 1) dX0_isHeard_26 (by decide) ?_
      refine g_goto C (tgt := 31) dX0_isHeard_27 (by decide) ?_
      exact g_zret_1 C hr dX0_isHeard_31 ⟨by simp [heardC, bi, *], rfl, rfl⟩

set_option maxRecDepth 100000 in
set_option maxHeartbeats 4000000 in
theorem tX0_whatTells {l : Launch} {E : EE} {N : Nat} {I : Mi} {F : Mr} {a : Nat} (ha : CH N F a) (hN : 0 < N) {i : Nat} (hi : i < 8)  : CtF l E mX0_whatTells [rf E a, .int (nI i)] N I F N (some (.int (tellC I a i))) I F := by
  refine CtF_of [some (rf E a), some (.int (nI i))] (by decide) rfl (Nat.le_of_ble_eq_true rfl) rfl (fun p e s m args below meth c C hr hname => ?_)
  refine g_iload_n C dX0_whatTells_0 rfl rfl ?_
  refine kX0_73 C hN (tX0_isPlace _) ⟨⟨Nat.le_of_ble_eq_true rfl, Nat.le_of_ble_eq_true rfl⟩, Nat.le_of_ble_eq_true rfl, Nat.le_of_ble_eq_true rfl⟩ (Nat.le_of_ble_eq_true rfl) dX0_whatTells_1 ?_
  refine g_ifne_b C (tgt := 9) dX0_whatTells_4 (by decide) (fun _ => ?_) (fun c4 => (bt_f (isP_n hi) c4).elim)
  refine g_aload_n C dX0_whatTells_9 rfl rfl ?_
  refine g_iload_n C dX0_whatTells_10 rfl rfl ?_
  refine kX0_81 C ha.o (tX0_isHeard ha hN hi) ⟨⟨Nat.le_of_ble_eq_true rfl, Nat.le_of_ble_eq_true rfl⟩, Nat.le_of_ble_eq_true rfl, Nat.le_of_ble_eq_true rfl⟩ (Nat.le_of_ble_eq_true rfl) dX0_whatTells_11 ?_
  refine g_ifeq_b C (tgt := 24) dX0_whatTells_14 (by decide) (fun c14 => ?_) (fun c14 => ?_)
  · skip
    refine g_aload_n C dX0_whatTells_24 rfl rfl ?_
    refine gfX0_55 C ha.o dX0_whatTells_25 ?_
    refine g_iload_n C dX0_whatTells_28 rfl rfl ?_
    refine kX0_77 C hN (tX4_isIn _ _) ⟨⟨Nat.le_of_ble_eq_true rfl, Nat.le_of_ble_eq_true rfl⟩, Nat.le_of_ble_eq_true rfl, Nat.le_of_ble_eq_true rfl⟩ (Nat.le_of_ble_eq_true rfl) dX0_whatTells_29 ?_
    refine g_ifeq_b C (tgt := 39) dX0_whatTells_32 (by decide) (fun c32 => ?_) (fun c32 => ?_)
    · skip
      refine g_sipush C (v := 255) dX0_whatTells_39 (by decide) ?_
      exact g_iret C hr dX0_whatTells_42 ⟨by simp [tellC, c14, c32], rfl, rfl⟩
    · skip
      refine g_iconst C (v := 0) dX0_whatTells_35 (by decide) ?_
      refine g_goto C (tgt := 42) dX0_whatTells_36 (by decide) ?_
      exact g_iret C hr dX0_whatTells_42 ⟨by simp [tellC, c14, c32], rfl, rfl⟩
  · skip
    refine g_aload_n C dX0_whatTells_17 rfl rfl ?_
    refine gfX0_24 C ha.o ha.f7 dX0_whatTells_18 ?_
    refine g_iload_n C dX0_whatTells_21 rfl rfl ?_
    refine g_iald_j C ha.r5 (i) rfl hi (by decide) dX0_whatTells_22 ?_
    exact g_iret C hr dX0_whatTells_23 ⟨by simp [tellC, c14], rfl, rfl⟩

set_option maxRecDepth 100000 in
set_option maxHeartbeats 4000000 in
theorem tX0_islandInQueue {l : Launch} {E : EE} {N : Nat} {I : Mi} {F : Mr} {a : Nat} (ha : CH N F a) (hN : 0 < N) (x : Int32)  : CtF l E mX0_islandInQueue [rf E a, .int x] N I F N (some (.int (inqC I a x))) I F := by
  refine CtF_of [some (rf E a), some (.int x)] (by decide) rfl (Nat.le_of_ble_eq_true rfl) rfl (fun p e s m args below meth c C hr hname => ?_)
  refine g_iload_n C dX0_islandInQueue_0 rfl rfl ?_
  refine kX0_73 C hN (tX0_isPlace _) ⟨⟨Nat.le_of_ble_eq_true rfl, Nat.le_of_ble_eq_true rfl⟩, Nat.le_of_ble_eq_true rfl, Nat.le_of_ble_eq_true rfl⟩ (Nat.le_of_ble_eq_true rfl) dX0_islandInQueue_1 ?_
  refine g_ifeq_b C (tgt := 24) dX0_islandInQueue_4 (by decide) (fun c4 => ?_) (fun c4 => ?_)
  · skip
    refine g_iconst C (v := (-1)) dX0_islandInQueue_24 (by decide) ?_
    exact g_iret C hr dX0_islandInQueue_25 ⟨by simp [inqC, c4], rfl, rfl⟩
  · skip
    refine g_iload_n C dX0_islandInQueue_7 rfl rfl ?_
    refine g_aload_n C dX0_islandInQueue_8 rfl rfl ?_
    refine gfX0_61 C ha.o dX0_islandInQueue_9 ?_
    refine g_icmp_ge C (tgt := 24) dX0_islandInQueue_12 (by decide) (fun c12 => ?_) (fun c12 => ?_)
    · skip
      refine g_iconst C (v := (-1)) dX0_islandInQueue_24 (by decide) ?_
      exact g_iret C hr dX0_islandInQueue_25 ⟨by simp [inqC, c4, c12], rfl, rfl⟩
    · skip
      refine g_aload_n C dX0_islandInQueue_15 rfl rfl ?_
      refine gfX0_36 C ha.o ha.f11 dX0_islandInQueue_16 ?_
      refine g_iload_n C dX0_islandInQueue_19 rfl rfl ?_
      refine g_iald C ha.r9 (isP_in c4) dX0_islandInQueue_20 ?_
      refine g_goto C (tgt := 25) dX0_islandInQueue_21 (by decide) ?_
      exact g_iret C hr dX0_islandInQueue_25 ⟨by simp [inqC, c4, c12], rfl, rfl⟩

set_option maxRecDepth 100000 in
set_option maxHeartbeats 4000000 in
theorem tX0_risingLoad {l : Launch} {E : EE} {N : Nat} {I : Mi} {F : Mr} {a : Nat} (ha : CH N F a)  : CtF l E mX0_risingLoad [rf E a] N I F N (some (.int (rloadC I a))) I F := by
  refine CtF_of [some (rf E a), none, none] (by decide) rfl (Nat.le_of_ble_eq_true rfl) rfl (fun p e s m args below meth c C hr hname => ?_)
  refine g_iconst C (v := 0) dX0_risingLoad_0 (by decide) ?_
  refine g_istore_n C dX0_risingLoad_1 rfl (by decide) rfl ?_
  refine g_iconst C (v := 0) dX0_risingLoad_2 (by decide) ?_
  refine g_istore_n C dX0_risingLoad_3 rfl (by decide) rfl ?_
  refine G_loop (n := 8) (fun i => [some (rf E a), some (.int (lp (fun i acc => if I (a + 4) i = 4 then acc + I (a + 2) i else acc) i 0)), some (.int (nI i))]) (fun i => I) (fun _ => F) rfl rfl rfl ?_ ?_
  · intro i4 hi4 ih4
    refine g_iload_n C dX0_risingLoad_4 rfl rfl ?_
    refine g_bipush C (v := 8) dX0_risingLoad_5 (by decide) ?_
    refine g_icmp_ge C (tgt := 35) dX0_risingLoad_7 (by decide) (fun c7 => absurd c7 (nI_nge rfl hi4 (by decide))) (fun _ => ?_)
    refine g_aload_n C dX0_risingLoad_10 rfl rfl ?_
    refine gfX0_21 C ha.o ha.f6 dX0_risingLoad_11 ?_
    refine g_iload_n C dX0_risingLoad_14 rfl rfl ?_
    refine g_iald_j C ha.r4 (i4) rfl hi4 (by decide) dX0_risingLoad_15 ?_
    refine g_iconst C (v := 4) dX0_risingLoad_16 (by decide) ?_
    refine g_icmp_ne C (tgt := 29) dX0_risingLoad_17 (by decide) (fun c17 => ?_) (fun c17 => ?_)
    · skip
      refine g_iinc C dX0_risingLoad_29 rfl (nI_inc _) (by decide) rfl ?_
      refine g_goto C (tgt := 4) dX0_risingLoad_32 (by decide) ?_
      exact G_cast ih4 rfl rfl (by first | rfl | (simp only [lp, c17, ↓reduceIte, Bool.false_eq_true, reduceCtorEq]; first | done | rfl)) rfl
    · skip
      refine g_iload_n C dX0_risingLoad_20 rfl rfl ?_
      refine g_aload_n C dX0_risingLoad_21 rfl rfl ?_
      refine gfX0_15 C ha.o ha.f4 dX0_risingLoad_22 ?_
      refine g_iload_n C dX0_risingLoad_25 rfl rfl ?_
      refine g_iald_j C ha.r2 (i4) rfl hi4 (by decide) dX0_risingLoad_26 ?_
      refine g_iadd C dX0_risingLoad_27 ?_
      refine g_istore_n C dX0_risingLoad_28 rfl (by decide) rfl ?_
      refine g_iinc C dX0_risingLoad_29 rfl (nI_inc _) (by decide) rfl ?_
      refine g_goto C (tgt := 4) dX0_risingLoad_32 (by decide) ?_
      exact G_cast ih4 rfl rfl (by first | rfl | (simp only [lp, c17, ↓reduceIte, Bool.false_eq_true, reduceCtorEq]; first | done | rfl)) rfl
  · skip
    refine g_iload_n C dX0_risingLoad_4 rfl rfl ?_
    refine g_bipush C (v := 8) dX0_risingLoad_5 (by decide) ?_
    refine g_icmp_ge C (tgt := 35) dX0_risingLoad_7 (by decide) (fun _ => ?_) (fun c7 => absurd (nI_lee rfl) c7)
    refine g_iload_n C dX0_risingLoad_35 rfl rfl ?_
    exact g_iret C hr dX0_risingLoad_36 ⟨rfl, rfl, rfl⟩

set_option maxRecDepth 100000 in
set_option maxHeartbeats 4000000 in
theorem tX0_noiseSoFar {l : Launch} {E : EE} {N : Nat} {I : Mi} {F : Mr} {a : Nat} (ha : CH N F a)  : CtF l E mX0_noiseSoFar [rf E a] N I F N (some (.int (sumC I (a + 8)))) I F := by
  refine CtF_of [some (rf E a), none, none] (by decide) rfl (Nat.le_of_ble_eq_true rfl) rfl (fun p e s m args below meth c C hr hname => ?_)
  refine g_iconst C (v := 0) dX0_noiseSoFar_0 (by decide) ?_
  refine g_istore_n C dX0_noiseSoFar_1 rfl (by decide) rfl ?_
  refine g_iconst C (v := 0) dX0_noiseSoFar_2 (by decide) ?_
  refine g_istore_n C dX0_noiseSoFar_3 rfl (by decide) rfl ?_
  refine G_loop (n := 8) (fun i => [some (rf E a), some (.int (lp (fun i acc => acc + I (a + 8) i) i 0)), some (.int (nI i))]) (fun i => I) (fun _ => F) rfl rfl rfl ?_ ?_
  · intro i4 hi4 ih4
    refine g_iload_n C dX0_noiseSoFar_4 rfl rfl ?_
    refine g_bipush C (v := 8) dX0_noiseSoFar_5 (by decide) ?_
    refine g_icmp_ge C (tgt := 25) dX0_noiseSoFar_7 (by decide) (fun c7 => absurd c7 (nI_nge rfl hi4 (by decide))) (fun _ => ?_)
    refine g_iload_n C dX0_noiseSoFar_10 rfl rfl ?_
    refine g_aload_n C dX0_noiseSoFar_11 rfl rfl ?_
    refine gfX0_33 C ha.o ha.f10 dX0_noiseSoFar_12 ?_
    refine g_iload_n C dX0_noiseSoFar_15 rfl rfl ?_
    refine g_iald_j C ha.r8 (i4) rfl hi4 (by decide) dX0_noiseSoFar_16 ?_
    refine g_iadd C dX0_noiseSoFar_17 ?_
    refine g_istore_n C dX0_noiseSoFar_18 rfl (by decide) rfl ?_
    refine g_iinc C dX0_noiseSoFar_19 rfl (nI_inc _) (by decide) rfl ?_
    refine g_goto C (tgt := 4) dX0_noiseSoFar_22 (by decide) ?_
    exact G_cast ih4 rfl rfl (by first | rfl | (simp only [lp, lp, ↓reduceIte, Bool.false_eq_true, reduceCtorEq]; first | done | rfl)) rfl
  · skip
    refine g_iload_n C dX0_noiseSoFar_4 rfl rfl ?_
    refine g_bipush C (v := 8) dX0_noiseSoFar_5 (by decide) ?_
    refine g_icmp_ge C (tgt := 25) dX0_noiseSoFar_7 (by decide) (fun _ => ?_) (fun c7 => absurd (nI_lee rfl) c7)
    refine g_iload_n C dX0_noiseSoFar_25 rfl rfl ?_
    exact g_iret C hr dX0_noiseSoFar_26 ⟨rfl, rfl, rfl⟩

set_option maxRecDepth 100000 in
set_option maxHeartbeats 4000000 in
theorem tX0_sumOfValues {l : Launch} {E : EE} {N : Nat} {I : Mi} {F : Mr} {a : Nat} (ha : CH N F a)  : CtF l E mX0_sumOfValues [rf E a] N I F N (some (.int (sumC I (a + 5)))) I F := by
  refine CtF_of [some (rf E a), none, none] (by decide) rfl (Nat.le_of_ble_eq_true rfl) rfl (fun p e s m args below meth c C hr hname => ?_)
  refine g_iconst C (v := 0) dX0_sumOfValues_0 (by decide) ?_
  refine g_istore_n C dX0_sumOfValues_1 rfl (by decide) rfl ?_
  refine g_iconst C (v := 0) dX0_sumOfValues_2 (by decide) ?_
  refine g_istore_n C dX0_sumOfValues_3 rfl (by decide) rfl ?_
  refine G_loop (n := 8) (fun i => [some (rf E a), some (.int (lp (fun i acc => acc + I (a + 5) i) i 0)), some (.int (nI i))]) (fun i => I) (fun _ => F) rfl rfl rfl ?_ ?_
  · intro i4 hi4 ih4
    refine g_iload_n C dX0_sumOfValues_4 rfl rfl ?_
    refine g_bipush C (v := 8) dX0_sumOfValues_5 (by decide) ?_
    refine g_icmp_ge C (tgt := 25) dX0_sumOfValues_7 (by decide) (fun c7 => absurd c7 (nI_nge rfl hi4 (by decide))) (fun _ => ?_)
    refine g_iload_n C dX0_sumOfValues_10 rfl rfl ?_
    refine g_aload_n C dX0_sumOfValues_11 rfl rfl ?_
    refine gfX0_24 C ha.o ha.f7 dX0_sumOfValues_12 ?_
    refine g_iload_n C dX0_sumOfValues_15 rfl rfl ?_
    refine g_iald_j C ha.r5 (i4) rfl hi4 (by decide) dX0_sumOfValues_16 ?_
    refine g_iadd C dX0_sumOfValues_17 ?_
    refine g_istore_n C dX0_sumOfValues_18 rfl (by decide) rfl ?_
    refine g_iinc C dX0_sumOfValues_19 rfl (nI_inc _) (by decide) rfl ?_
    refine g_goto C (tgt := 4) dX0_sumOfValues_22 (by decide) ?_
    exact G_cast ih4 rfl rfl (by first | rfl | (simp only [lp, lp, ↓reduceIte, Bool.false_eq_true, reduceCtorEq]; first | done | rfl)) rfl
  · skip
    refine g_iload_n C dX0_sumOfValues_4 rfl rfl ?_
    refine g_bipush C (v := 8) dX0_sumOfValues_5 (by decide) ?_
    refine g_icmp_ge C (tgt := 25) dX0_sumOfValues_7 (by decide) (fun _ => ?_) (fun c7 => absurd (nI_lee rfl) c7)
    refine g_iload_n C dX0_sumOfValues_25 rfl rfl ?_
    exact g_iret C hr dX0_sumOfValues_26 ⟨rfl, rfl, rfl⟩

set_option maxRecDepth 100000 in
set_option maxHeartbeats 4000000 in
theorem tbitCount {l : Launch} {E : EE} {N : Nat} {I : Mi} {F : Mr} (x : Int32)  : CtF l E mJ6_bitCount_0f7a4 [.int x] N I F N (some (.int (bcJ x))) I F := by
  refine CtF_of [some (.int x)] (by decide) rfl (Nat.le_of_ble_eq_true rfl) rfl (fun p e s m args below meth c C hr hname => ?_)
  refine g_iload_n C dJ6_bitCount_0f7a4_0 rfl rfl ?_
  refine g_iload_n C dJ6_bitCount_0f7a4_1 rfl rfl ?_
  refine g_iconst C (v := 1) dJ6_bitCount_0f7a4_2 (by decide) ?_
  refine g_iushr C dJ6_bitCount_0f7a4_3 rfl ?_
  refine g_ldcw C dJ6_bitCount_0f7a4_4 kcJ6_265 ?_
  refine g_iand C dJ6_bitCount_0f7a4_7 ?_
  refine g_isub C dJ6_bitCount_0f7a4_8 ?_
  refine g_istore_n C dJ6_bitCount_0f7a4_9 rfl (by decide) rfl ?_
  refine g_iload_n C dJ6_bitCount_0f7a4_10 rfl rfl ?_
  refine g_ldcw C dJ6_bitCount_0f7a4_11 kcJ6_266 ?_
  refine g_iand C dJ6_bitCount_0f7a4_14 ?_
  refine g_iload_n C dJ6_bitCount_0f7a4_15 rfl rfl ?_
  refine g_iconst C (v := 2) dJ6_bitCount_0f7a4_16 (by decide) ?_
  refine g_iushr C dJ6_bitCount_0f7a4_17 rfl ?_
  refine g_ldcw C dJ6_bitCount_0f7a4_18 kcJ6_266 ?_
  refine g_iand C dJ6_bitCount_0f7a4_21 ?_
  refine g_iadd C dJ6_bitCount_0f7a4_22 ?_
  refine g_istore_n C dJ6_bitCount_0f7a4_23 rfl (by decide) rfl ?_
  refine g_iload_n C dJ6_bitCount_0f7a4_24 rfl rfl ?_
  refine g_iload_n C dJ6_bitCount_0f7a4_25 rfl rfl ?_
  refine g_iconst C (v := 4) dJ6_bitCount_0f7a4_26 (by decide) ?_
  refine g_iushr C dJ6_bitCount_0f7a4_27 rfl ?_
  refine g_iadd C dJ6_bitCount_0f7a4_28 ?_
  refine g_ldcw C dJ6_bitCount_0f7a4_29 kcJ6_267 ?_
  refine g_iand C dJ6_bitCount_0f7a4_32 ?_
  refine g_istore_n C dJ6_bitCount_0f7a4_33 rfl (by decide) rfl ?_
  refine g_iload_n C dJ6_bitCount_0f7a4_34 rfl rfl ?_
  refine g_iload_n C dJ6_bitCount_0f7a4_35 rfl rfl ?_
  refine g_bipush C (v := 8) dJ6_bitCount_0f7a4_36 (by decide) ?_
  refine g_iushr C dJ6_bitCount_0f7a4_38 rfl ?_
  refine g_iadd C dJ6_bitCount_0f7a4_39 ?_
  refine g_istore_n C dJ6_bitCount_0f7a4_40 rfl (by decide) rfl ?_
  refine g_iload_n C dJ6_bitCount_0f7a4_41 rfl rfl ?_
  refine g_iload_n C dJ6_bitCount_0f7a4_42 rfl rfl ?_
  refine g_bipush C (v := 16) dJ6_bitCount_0f7a4_43 (by decide) ?_
  refine g_iushr C dJ6_bitCount_0f7a4_45 rfl ?_
  refine g_iadd C dJ6_bitCount_0f7a4_46 ?_
  refine g_istore_n C dJ6_bitCount_0f7a4_47 rfl (by decide) rfl ?_
  refine g_iload_n C dJ6_bitCount_0f7a4_48 rfl rfl ?_
  refine g_bipush C (v := 63) dJ6_bitCount_0f7a4_49 (by decide) ?_
  refine g_iand C dJ6_bitCount_0f7a4_51 ?_
  exact g_iret C hr dJ6_bitCount_0f7a4_52 ⟨rfl, rfl, rfl⟩

set_option maxRecDepth 100000 in
set_option maxHeartbeats 4000000 in
theorem tX0_areAllAwake {l : Launch} {E : EE} {N : Nat} {I : Mi} {F : Mr} {a : Nat} (ha : CH N F a) (hN : 0 < N)  : CtF l E mX0_areAllAwake [rf E a] N I F N (some (.int (bi (decide (bcJ (setC I a 0) = I a 0))))) I F := by
  refine CtF_of [some (rf E a)] (by decide) rfl (Nat.le_of_ble_eq_true rfl) rfl (fun p e s m args below meth c C hr hname => ?_)
  refine g_aload_n C dX0_areAllAwake_0 rfl rfl ?_
  refine g_iconst C (v := 0) dX0_areAllAwake_1 (by decide) ?_
  refine kX0_84 C ha.o (tX0_islandsThatAre ha _) ⟨⟨Nat.le_of_ble_eq_true rfl, Nat.le_of_ble_eq_true rfl⟩, Nat.le_of_ble_eq_true rfl, Nat.le_of_ble_eq_true rfl⟩ (Nat.le_of_ble_eq_true rfl) dX0_areAllAwake_2 ?_
  refine kX0_88 C hN (tbitCount _) ⟨⟨Nat.le_of_ble_eq_true rfl, Nat.le_of_ble_eq_true rfl⟩, Nat.le_of_ble_eq_true rfl, Nat.le_of_ble_eq_true rfl⟩ (Nat.le_of_ble_eq_true rfl) dX0_areAllAwake_5 ?_
  refine g_aload_n C dX0_areAllAwake_8 rfl rfl ?_
  refine gfX0_52 C ha.o dX0_areAllAwake_9 ?_
  refine g_icmp_ne C (tgt := 19) dX0_areAllAwake_12 (by decide) (fun c12 => ?_) (fun c12 => ?_)
  · skip
    refine g_iconst C (v := 0) dX0_areAllAwake_19 (by decide) ?_
    exact g_zret_0 C hr dX0_areAllAwake_20 ⟨by simp [bi, c12], rfl, rfl⟩
  · skip
    refine g_iconst C (v := 1) dX0_areAllAwake_15 (by decide) ?_
    refine g_goto C (tgt := 20) dX0_areAllAwake_16 (by decide) ?_
    exact g_zret_1 C hr dX0_areAllAwake_20 ⟨by simp [bi, c12], rfl, rfl⟩

set_option maxRecDepth 100000 in
set_option maxHeartbeats 4000000 in
theorem tX0_clear {l : Launch} {E : EE} {N : Nat} {I : Mi} {F : Mr} {a : Nat} (ha : CH N F a)  : CtF l E mX0_clear [rf E a] N I F N none (clearC I a) F := by
  refine CtF_of [some (rf E a), none] (by decide) rfl (Nat.le_of_ble_eq_true rfl) rfl (fun p e s m args below meth c C hr hname => ?_)
  refine g_aload_n C dX0_clear_0 rfl rfl ?_
  refine g_iconst C (v := 0) dX0_clear_1 (by decide) ?_
  refine pfX0_52 C ha.o dX0_clear_2 ?_
  refine g_aload_n C dX0_clear_5 rfl rfl ?_
  refine g_iconst C (v := 0) dX0_clear_6 (by decide) ?_
  refine pfX0_55 C ha.o dX0_clear_7 ?_
  refine g_aload_n C dX0_clear_10 rfl rfl ?_
  refine g_iconst C (v := 0) dX0_clear_11 (by decide) ?_
  refine pfX0_58 C ha.o dX0_clear_12 ?_
  refine g_aload_n C dX0_clear_15 rfl rfl ?_
  refine g_iconst C (v := 0) dX0_clear_16 (by decide) ?_
  refine pfX0_61 C ha.o dX0_clear_17 ?_
  refine g_aload_n C dX0_clear_20 rfl rfl ?_
  refine g_iconst C (v := 0) dX0_clear_21 (by decide) ?_
  refine pfX0_64 C ha.o dX0_clear_22 ?_
  refine g_aload_n C dX0_clear_25 rfl rfl ?_
  refine g_iconst C (v := 0) dX0_clear_26 (by decide) ?_
  refine pfX0_67 C ha.o dX0_clear_27 ?_
  refine g_aload_n C dX0_clear_30 rfl rfl ?_
  refine g_iconst C (v := 0) dX0_clear_31 (by decide) ?_
  refine pfX0_70 C ha.o dX0_clear_32 ?_
  refine g_iconst C (v := 0) dX0_clear_35 (by decide) ?_
  refine g_istore_n C dX0_clear_36 rfl (by decide) rfl ?_
  refine G_loop (n := 8) (fun i => [some (rf E a), some (.int (nI i))]) (fun i => lp (clrB a) i (clrS I a)) (fun _ => F) rfl rfl rfl ?_ ?_
  · intro i37 hi37 ih37
    refine g_iload_n C dX0_clear_37 rfl rfl ?_
    refine g_bipush C (v := 8) dX0_clear_38 (by decide) ?_
    refine g_icmp_ge C (tgt := 112) dX0_clear_40 (by decide) (fun c40 => absurd c40 (nI_nge rfl hi37 (by decide))) (fun _ => ?_)
    refine g_aload_n C dX0_clear_43 rfl rfl ?_
    refine gfX0_9 C ha.o ha.f3 dX0_clear_44 ?_
    refine g_iload_n C dX0_clear_47 rfl rfl ?_
    refine g_iconst C (v := 0) dX0_clear_48 (by decide) ?_
    refine g_iast_j C ha.r1 (i37) rfl hi37 (by decide) dX0_clear_49 ?_
    refine g_aload_n C dX0_clear_50 rfl rfl ?_
    refine gfX0_15 C ha.o ha.f4 dX0_clear_51 ?_
    refine g_iload_n C dX0_clear_54 rfl rfl ?_
    refine g_iconst C (v := 0) dX0_clear_55 (by decide) ?_
    refine g_iast_j C ha.r2 (i37) rfl hi37 (by decide) dX0_clear_56 ?_
    refine g_aload_n C dX0_clear_57 rfl rfl ?_
    refine gfX0_18 C ha.o ha.f5 dX0_clear_58 ?_
    refine g_iload_n C dX0_clear_61 rfl rfl ?_
    refine g_iconst C (v := 0) dX0_clear_62 (by decide) ?_
    refine g_iast_j C ha.r3 (i37) rfl hi37 (by decide) dX0_clear_63 ?_
    refine g_aload_n C dX0_clear_64 rfl rfl ?_
    refine gfX0_21 C ha.o ha.f6 dX0_clear_65 ?_
    refine g_iload_n C dX0_clear_68 rfl rfl ?_
    refine g_iconst C (v := (-1)) dX0_clear_69 (by decide) ?_
    refine g_iast_j C ha.r4 (i37) rfl hi37 (by decide) dX0_clear_70 ?_
    refine g_aload_n C dX0_clear_71 rfl rfl ?_
    refine gfX0_24 C ha.o ha.f7 dX0_clear_72 ?_
    refine g_iload_n C dX0_clear_75 rfl rfl ?_
    refine g_iconst C (v := 0) dX0_clear_76 (by decide) ?_
    refine g_iast_j C ha.r5 (i37) rfl hi37 (by decide) dX0_clear_77 ?_
    refine g_aload_n C dX0_clear_78 rfl rfl ?_
    refine gfX0_27 C ha.o ha.f8 dX0_clear_79 ?_
    refine g_iload_n C dX0_clear_82 rfl rfl ?_
    refine g_iconst C (v := 0) dX0_clear_83 (by decide) ?_
    refine g_iast_j C ha.r6 (i37) rfl hi37 (by decide) dX0_clear_84 ?_
    refine g_aload_n C dX0_clear_85 rfl rfl ?_
    refine gfX0_30 C ha.o ha.f9 dX0_clear_86 ?_
    refine g_iload_n C dX0_clear_89 rfl rfl ?_
    refine g_iconst C (v := 0) dX0_clear_90 (by decide) ?_
    refine g_iast_j C ha.r7 (i37) rfl hi37 (by decide) dX0_clear_91 ?_
    refine g_aload_n C dX0_clear_92 rfl rfl ?_
    refine gfX0_33 C ha.o ha.f10 dX0_clear_93 ?_
    refine g_iload_n C dX0_clear_96 rfl rfl ?_
    refine g_iconst C (v := 0) dX0_clear_97 (by decide) ?_
    refine g_iast_j C ha.r8 (i37) rfl hi37 (by decide) dX0_clear_98 ?_
    refine g_aload_n C dX0_clear_99 rfl rfl ?_
    refine gfX0_36 C ha.o ha.f11 dX0_clear_100 ?_
    refine g_iload_n C dX0_clear_103 rfl rfl ?_
    refine g_iconst C (v := 0) dX0_clear_104 (by decide) ?_
    refine g_iast_j C ha.r9 (i37) rfl hi37 (by decide) dX0_clear_105 ?_
    refine g_iinc C dX0_clear_106 rfl (nI_inc _) (by decide) rfl ?_
    refine g_goto C (tgt := 37) dX0_clear_109 (by decide) ?_
    exact G_cast ih37 (by first | rfl | (simp only [lp, clrB, lp, ↓reduceIte, Bool.false_eq_true, reduceCtorEq]; first | done | rfl)) rfl rfl rfl
  · skip
    refine g_iload_n C dX0_clear_37 rfl rfl ?_
    refine g_bipush C (v := 8) dX0_clear_38 (by decide) ?_
    refine g_icmp_ge C (tgt := 112) dX0_clear_40 (by decide) (fun _ => ?_) (fun c40 => absurd (nI_lee rfl) c40)
    exact g_vret C hr dX0_clear_112 ⟨rfl, rfl, rfl⟩

set_option maxRecDepth 100000 in
set_option maxHeartbeats 4000000 in
theorem tX0_orderToWake {l : Launch} {E : EE} {N : Nat} {I : Mi} {F : Mr} {a : Nat} (ha : CH N F a) (hN : 0 < N) {i : Nat} (hi : i < 8)  : CtF l E mX0_orderToWake [rf E a, .int (nI i)] N I F N none (otwC I a i) F := by
  refine CtF_of [some (rf E a), some (.int (nI i))] (by decide) rfl (Nat.le_of_ble_eq_true rfl) rfl (fun p e s m args below meth c C hr hname => ?_)
  refine g_iload_n C dX0_orderToWake_0 rfl rfl ?_
  refine kX0_73 C hN (tX0_isPlace _) ⟨⟨Nat.le_of_ble_eq_true rfl, Nat.le_of_ble_eq_true rfl⟩, Nat.le_of_ble_eq_true rfl, Nat.le_of_ble_eq_true rfl⟩ (Nat.le_of_ble_eq_true rfl) dX0_orderToWake_1 ?_
  refine g_ifeq_b C (tgt := 44) dX0_orderToWake_4 (by decide) (fun c4 => (bt_f (isP_n hi) c4).elim) (fun _ => ?_)
  refine g_aload_n C dX0_orderToWake_7 rfl rfl ?_
  refine gfX0_61 C ha.o dX0_orderToWake_8 ?_
  refine kX0_73 C hN (tX0_isPlace _) ⟨⟨Nat.le_of_ble_eq_true rfl, Nat.le_of_ble_eq_true rfl⟩, Nat.le_of_ble_eq_true rfl, Nat.le_of_ble_eq_true rfl⟩ (Nat.le_of_ble_eq_true rfl) dX0_orderToWake_11 ?_
  refine g_ifeq_b C (tgt := 44) dX0_orderToWake_14 (by decide) (fun c14 => ?_) (fun c14 => ?_)
  · skip
    exact g_vret C hr dX0_orderToWake_44 ⟨rfl, by simp only [otwC, c14, ↓reduceIte, Bool.false_eq_true], rfl⟩
  · skip
    refine g_aload_n C dX0_orderToWake_17 rfl rfl ?_
    refine gfX0_21 C ha.o ha.f6 dX0_orderToWake_18 ?_
    refine g_iload_n C dX0_orderToWake_21 rfl rfl ?_
    refine g_iconst C (v := 3) dX0_orderToWake_22 (by decide) ?_
    refine g_iast_j C ha.r4 (i) rfl hi (by decide) dX0_orderToWake_23 ?_
    refine g_aload_n C dX0_orderToWake_24 rfl rfl ?_
    refine gfX0_36 C ha.o ha.f11 dX0_orderToWake_25 ?_
    refine g_aload_n C dX0_orderToWake_28 rfl rfl ?_
    refine gfX0_61 C ha.o dX0_orderToWake_29 ?_
    refine g_iload_n C dX0_orderToWake_32 rfl rfl ?_
    refine g_iast C ha.r9 (by rw [show up I (a + 4) i 3 a 12 = I a 12 by simp [up]]; exact isP_in c14) dX0_orderToWake_33 ?_
    refine g_aload_n C dX0_orderToWake_34 rfl rfl ?_
    refine g_dup C dX0_orderToWake_35 rfl ?_
    refine gfX0_61 C ha.o dX0_orderToWake_36 ?_
    refine g_iconst C (v := 1) dX0_orderToWake_39 (by decide) ?_
    refine g_iadd C dX0_orderToWake_40 ?_
    refine pfX0_61 C ha.o dX0_orderToWake_41 ?_
    exact g_vret C hr dX0_orderToWake_44 ⟨rfl, by simp only [otwC, c14, ↓reduceIte, Bool.false_eq_true], rfl⟩

set_option maxRecDepth 100000 in
set_option maxHeartbeats 4000000 in
theorem tX0_orderSleepersToWake {l : Launch} {E : EE} {N : Nat} {I : Mi} {F : Mr} {a : Nat} (ha : CH N F a) (hN : 0 < N)  : CtF l E mX0_orderSleepersToWake [rf E a] N I F N none (oswC I a) F := by
  refine CtF_of [some (rf E a), none] (by decide) rfl (Nat.le_of_ble_eq_true rfl) rfl (fun p e s m args below meth c C hr hname => ?_)
  refine g_iconst C (v := 0) dX0_orderSleepersToWake_0 (by decide) ?_
  refine g_istore_n C dX0_orderSleepersToWake_1 rfl (by decide) rfl ?_
  refine G_loop (n := 8) (fun i => [some (rf E a), some (.int (nI i))]) (fun i => lp (fun i I => if I (a + 4) i = 2 then otwC I a i else I) i I) (fun _ => F) rfl rfl rfl ?_ ?_
  · intro i2 hi2 ih2
    refine g_iload_n C dX0_orderSleepersToWake_2 rfl rfl ?_
    refine g_bipush C (v := 8) dX0_orderSleepersToWake_3 (by decide) ?_
    refine g_icmp_ge C (tgt := 29) dX0_orderSleepersToWake_5 (by decide) (fun c5 => absurd c5 (nI_nge rfl hi2 (by decide))) (fun _ => ?_)
    refine g_aload_n C dX0_orderSleepersToWake_8 rfl rfl ?_
    refine gfX0_21 C ha.o ha.f6 dX0_orderSleepersToWake_9 ?_
    refine g_iload_n C dX0_orderSleepersToWake_12 rfl rfl ?_
    refine g_iald_j C ha.r4 (i2) rfl hi2 (by decide) dX0_orderSleepersToWake_13 ?_
    refine g_iconst C (v := 2) dX0_orderSleepersToWake_14 (by decide) ?_
    refine g_icmp_ne C (tgt := 23) dX0_orderSleepersToWake_15 (by decide) (fun c15 => ?_) (fun c15 => ?_)
    · skip
      refine g_iinc C dX0_orderSleepersToWake_23 rfl (nI_inc _) (by decide) rfl ?_
      refine g_goto C (tgt := 2) dX0_orderSleepersToWake_26 (by decide) ?_
      exact G_cast ih2 (by first | rfl | (simp only [lp, c15, ↓reduceIte, Bool.false_eq_true, reduceCtorEq]; first | done | rfl)) rfl rfl rfl
    · skip
      refine g_aload_n C dX0_orderSleepersToWake_18 rfl rfl ?_
      refine g_iload_n C dX0_orderSleepersToWake_19 rfl rfl ?_
      refine kX0_93 C ha.o (tX0_orderToWake ha hN hi2) ⟨⟨Nat.le_of_ble_eq_true rfl, Nat.le_of_ble_eq_true rfl⟩, Nat.le_of_ble_eq_true rfl, Nat.le_of_ble_eq_true rfl⟩ (Nat.le_of_ble_eq_true rfl) dX0_orderSleepersToWake_20 ?_
      refine g_iinc C dX0_orderSleepersToWake_23 rfl (nI_inc _) (by decide) rfl ?_
      refine g_goto C (tgt := 2) dX0_orderSleepersToWake_26 (by decide) ?_
      exact G_cast ih2 (by first | rfl | (simp only [lp, c15, ↓reduceIte, Bool.false_eq_true, reduceCtorEq]; first | done | rfl)) rfl rfl rfl
  · skip
    refine g_iload_n C dX0_orderSleepersToWake_2 rfl rfl ?_
    refine g_bipush C (v := 8) dX0_orderSleepersToWake_3 (by decide) ?_
    refine g_icmp_ge C (tgt := 29) dX0_orderSleepersToWake_5 (by decide) (fun _ => ?_) (fun c5 => absurd (nI_lee rfl) c5)
    exact g_vret C hr dX0_orderSleepersToWake_29 ⟨rfl, rfl, rfl⟩

set_option maxRecDepth 100000 in
set_option maxHeartbeats 4000000 in
theorem tX0_sumTold {l : Launch} {E : EE} {N : Nat} {I : Mi} {F : Mr} {a : Nat} (ha : CH N F a) (hN : 0 < N) (x : Int32)  : CtF l E mX0_sumTold [rf E a, .int x] N I F N (some (.int (sumTC I a x))) I F := by
  refine CtF_of [some (rf E a), some (.int x), none, none] (by decide) rfl (Nat.le_of_ble_eq_true rfl) rfl (fun p e s m args below meth c C hr hname => ?_)
  refine g_iconst C (v := 0) dX0_sumTold_0 (by decide) ?_
  refine g_istore_n C dX0_sumTold_1 rfl (by decide) rfl ?_
  refine g_iconst C (v := 0) dX0_sumTold_2 (by decide) ?_
  refine g_istore_n C dX0_sumTold_3 rfl (by decide) rfl ?_
  refine G_loop (n := 8) (fun i => [some (rf E a), some (.int x), some (.int (lp (fun i acc => if isI x (nI i) = true then acc + I (a + 10) i else acc) i 0)), some (.int (nI i))]) (fun i => I) (fun _ => F) rfl rfl rfl ?_ ?_
  · intro i4 hi4 ih4
    refine g_iload_n C dX0_sumTold_4 rfl rfl ?_
    refine g_bipush C (v := 8) dX0_sumTold_5 (by decide) ?_
    refine g_icmp_ge C (tgt := 33) dX0_sumTold_7 (by decide) (fun c7 => absurd c7 (nI_nge rfl hi4 (by decide))) (fun _ => ?_)
    refine g_iload_n C dX0_sumTold_10 rfl rfl ?_
    refine g_iload_n C dX0_sumTold_11 rfl rfl ?_
    refine kX0_77 C hN (tX4_isIn _ _) ⟨⟨Nat.le_of_ble_eq_true rfl, Nat.le_of_ble_eq_true rfl⟩, Nat.le_of_ble_eq_true rfl, Nat.le_of_ble_eq_true rfl⟩ (Nat.le_of_ble_eq_true rfl) dX0_sumTold_12 ?_
    refine g_ifeq_b C (tgt := 27) dX0_sumTold_15 (by decide) (fun c15 => ?_) (fun c15 => ?_)
    · skip
      refine g_iinc C dX0_sumTold_27 rfl (nI_inc _) (by decide) rfl ?_
      refine g_goto C (tgt := 4) dX0_sumTold_30 (by decide) ?_
      exact G_cast ih4 rfl rfl (by first | rfl | (simp only [lp, c15, ↓reduceIte, Bool.false_eq_true, reduceCtorEq]; first | done | rfl)) rfl
    · skip
      refine g_iload_n C dX0_sumTold_18 rfl rfl ?_
      refine g_aload_n C dX0_sumTold_19 rfl rfl ?_
      refine gfX0_39 C ha.o ha.f18 dX0_sumTold_20 ?_
      refine g_iload_n C dX0_sumTold_23 rfl rfl ?_
      refine g_iald_j C ha.r10 (i4) rfl hi4 (by decide) dX0_sumTold_24 ?_
      refine g_iadd C dX0_sumTold_25 ?_
      refine g_istore_n C dX0_sumTold_26 rfl (by decide) rfl ?_
      refine g_iinc C dX0_sumTold_27 rfl (nI_inc _) (by decide) rfl ?_
      refine g_goto C (tgt := 4) dX0_sumTold_30 (by decide) ?_
      exact G_cast ih4 rfl rfl (by first | rfl | (simp only [lp, c15, ↓reduceIte, Bool.false_eq_true, reduceCtorEq]; first | done | rfl)) rfl
  · skip
    refine g_iload_n C dX0_sumTold_4 rfl rfl ?_
    refine g_bipush C (v := 8) dX0_sumTold_5 (by decide) ?_
    refine g_icmp_ge C (tgt := 33) dX0_sumTold_7 (by decide) (fun _ => ?_) (fun c7 => absurd (nI_lee rfl) c7)
    refine g_iload_n C dX0_sumTold_33 rfl rfl ?_
    exact g_iret C hr dX0_sumTold_34 ⟨rfl, rfl, rfl⟩

set_option maxRecDepth 100000 in
set_option maxHeartbeats 4000000 in
theorem tX0_readOneAnother {l : Launch} {E : EE} {N : Nat} {I : Mi} {F : Mr} {a : Nat} (ha : CH N F a) (hN : 0 < N)  : CtF l E mX0_readOneAnother [rf E a] N I F N none (rdoC I a) F := by
  refine CtF_of [some (rf E a), none, none] (by decide) rfl (Nat.le_of_ble_eq_true rfl) rfl (fun p e s m args below meth c C hr hname => ?_)
  refine g_iconst C (v := 0) dX0_readOneAnother_0 (by decide) ?_
  refine g_istore_n C dX0_readOneAnother_1 rfl (by decide) rfl ?_
  refine g_iconst C (v := 0) dX0_readOneAnother_2 (by decide) ?_
  refine g_istore_n C dX0_readOneAnother_3 rfl (by decide) rfl ?_
  refine G_loop (n := 8) (fun i => [some (rf E a), some (.int (lp (ro1C a) i (I, 0)).2), some (.int (nI i))]) (fun i => (lp (ro1C a) i (I, 0)).1) (fun _ => F) rfl rfl rfl ?_ ?_
  · intro i4 hi4 ih4
    refine g_iload_n C dX0_readOneAnother_4 rfl rfl ?_
    refine g_bipush C (v := 8) dX0_readOneAnother_5 (by decide) ?_
    refine g_icmp_ge C (tgt := 52) dX0_readOneAnother_7 (by decide) (fun c7 => absurd c7 (nI_nge rfl hi4 (by decide))) (fun _ => ?_)
    refine g_aload_n C dX0_readOneAnother_10 rfl rfl ?_
    refine gfX0_39 C ha.o ha.f18 dX0_readOneAnother_11 ?_
    refine g_iload_n C dX0_readOneAnother_14 rfl rfl ?_
    refine g_aload_n C dX0_readOneAnother_15 rfl rfl ?_
    refine g_iload_n C dX0_readOneAnother_16 rfl rfl ?_
    refine kX0_113 C ha.o (tX0_whatTells ha hN hi4) ⟨⟨Nat.le_of_ble_eq_true rfl, Nat.le_of_ble_eq_true rfl⟩, Nat.le_of_ble_eq_true rfl, Nat.le_of_ble_eq_true rfl⟩ (Nat.le_of_ble_eq_true rfl) dX0_readOneAnother_17 ?_
    refine g_iast_j C ha.r10 (i4) rfl hi4 (by decide) dX0_readOneAnother_20 ?_
    refine g_aload_n C dX0_readOneAnother_21 rfl rfl ?_
    refine g_iload_n C dX0_readOneAnother_22 rfl rfl ?_
    refine kX0_81 C ha.o (tX0_isHeard ha hN hi4) ⟨⟨Nat.le_of_ble_eq_true rfl, Nat.le_of_ble_eq_true rfl⟩, Nat.le_of_ble_eq_true rfl, Nat.le_of_ble_eq_true rfl⟩ (Nat.le_of_ble_eq_true rfl) dX0_readOneAnother_23 ?_
    refine g_ifne_b C (tgt := 46) dX0_readOneAnother_26 (by decide) (fun c26 => ?_) (fun c26 => ?_)
    · skip
      refine g_iinc C dX0_readOneAnother_46 rfl (nI_inc _) (by decide) rfl ?_
      refine g_goto C (tgt := 4) dX0_readOneAnother_49 (by decide) ?_
      exact G_cast ih4 rfl rfl (by first | rfl | (simp only [lp, ro1C, c26, ↓reduceIte, Bool.false_eq_true, reduceCtorEq]; first | done | rfl)) rfl
    · skip
      refine g_aload_n C dX0_readOneAnother_29 rfl rfl ?_
      refine gfX0_55 C ha.o dX0_readOneAnother_30 ?_
      refine g_iload_n C dX0_readOneAnother_33 rfl rfl ?_
      refine kX0_77 C hN (tX4_isIn _ _) ⟨⟨Nat.le_of_ble_eq_true rfl, Nat.le_of_ble_eq_true rfl⟩, Nat.le_of_ble_eq_true rfl, Nat.le_of_ble_eq_true rfl⟩ (Nat.le_of_ble_eq_true rfl) dX0_readOneAnother_34 ?_
      refine g_ifne_b C (tgt := 46) dX0_readOneAnother_37 (by decide) (fun c37 => ?_) (fun c37 => ?_)
      · skip
        refine g_iinc C dX0_readOneAnother_46 rfl (nI_inc _) (by decide) rfl ?_
        refine g_goto C (tgt := 4) dX0_readOneAnother_49 (by decide) ?_
        exact G_cast ih4 rfl rfl (by first | rfl | (simp only [lp, ro1C, c26, c37, ↓reduceIte, Bool.false_eq_true, reduceCtorEq]; first | done | rfl)) rfl
      · skip
        refine g_iload_n C dX0_readOneAnother_40 rfl rfl ?_
        refine g_iconst C (v := 1) dX0_readOneAnother_41 (by decide) ?_
        refine g_iload_n C dX0_readOneAnother_42 rfl rfl ?_
        refine g_ishl C dX0_readOneAnother_43 ?_
        refine g_ior C dX0_readOneAnother_44 ?_
        refine g_istore_n C dX0_readOneAnother_45 rfl (by decide) rfl ?_
        refine g_iinc C dX0_readOneAnother_46 rfl (nI_inc _) (by decide) rfl ?_
        refine g_goto C (tgt := 4) dX0_readOneAnother_49 (by decide) ?_
        exact G_cast ih4 rfl rfl (by first | rfl | (simp only [lp, ro1C, c26, c37, ↓reduceIte, Bool.false_eq_true, reduceCtorEq]; first | done | rfl)) rfl
  · skip
    refine g_iload_n C dX0_readOneAnother_4 rfl rfl ?_
    refine g_bipush C (v := 8) dX0_readOneAnother_5 (by decide) ?_
    refine g_icmp_ge C (tgt := 52) dX0_readOneAnother_7 (by decide) (fun _ => ?_) (fun c7 => absurd (nI_lee rfl) c7)
    refine g_iconst C (v := 0) dX0_readOneAnother_52 (by decide) ?_
    refine g_istore_n C dX0_readOneAnother_53 rfl (by decide) rfl ?_
    refine G_loop (n := 8) (fun i => [some (rf E a), some (.int (ro1R I a).2), some (.int (nI i))]) (fun i => lp (ro2C a (ro1R I a).2) i (ro1R I a).1) (fun _ => F) rfl rfl rfl ?_ ?_
    · intro i54 hi54 ih54
      refine g_iload_n C dX0_readOneAnother_54 rfl rfl ?_
      refine g_bipush C (v := 8) dX0_readOneAnother_55 (by decide) ?_
      refine g_icmp_ge C (tgt := 122) dX0_readOneAnother_57 (by decide) (fun c57 => absurd c57 (nI_nge rfl hi54 (by decide))) (fun _ => ?_)
      refine g_aload_n C dX0_readOneAnother_60 rfl rfl ?_
      refine gfX0_21 C ha.o ha.f6 dX0_readOneAnother_61 ?_
      refine g_iload_n C dX0_readOneAnother_64 rfl rfl ?_
      refine g_iald_j C ha.r4 (i54) rfl hi54 (by decide) dX0_readOneAnother_65 ?_
      refine g_if_ne C (tgt := 116) dX0_readOneAnother_66 (by decide) (fun c66 => ?_) (fun c66 => ?_)
      · skip
        refine g_iinc C dX0_readOneAnother_116 rfl (nI_inc _) (by decide) rfl ?_
        refine g_goto C (tgt := 54) dX0_readOneAnother_119 (by decide) ?_
        exact G_cast ih54 (by first | rfl | (simp only [lp, ro2C, c66, ↓reduceIte, Bool.false_eq_true, reduceCtorEq]; first | done | rfl)) rfl rfl rfl
      · skip
        refine g_aload_n C dX0_readOneAnother_69 rfl rfl ?_
        refine gfX0_24 C ha.o ha.f7 dX0_readOneAnother_70 ?_
        refine g_iload_n C dX0_readOneAnother_73 rfl rfl ?_
        refine g_aload_n C dX0_readOneAnother_74 rfl rfl ?_
        refine gfX0_24 C ha.o ha.f7 dX0_readOneAnother_75 ?_
        refine g_iload_n C dX0_readOneAnother_78 rfl rfl ?_
        refine g_iald_j C ha.r5 (i54) rfl hi54 (by decide) dX0_readOneAnother_79 ?_
        refine g_aload_n C dX0_readOneAnother_80 rfl rfl ?_
        refine g_aload_n C dX0_readOneAnother_81 rfl rfl ?_
        refine gfX0_18 C ha.o ha.f5 dX0_readOneAnother_82 ?_
        refine g_iload_n C dX0_readOneAnother_85 rfl rfl ?_
        refine g_iald_j C ha.r3 (i54) rfl hi54 (by decide) dX0_readOneAnother_86 ?_
        refine kX0_116 C ha.o (tX0_sumTold ha hN _) ⟨⟨Nat.le_of_ble_eq_true rfl, Nat.le_of_ble_eq_true rfl⟩, Nat.le_of_ble_eq_true rfl, Nat.le_of_ble_eq_true rfl⟩ (Nat.le_of_ble_eq_true rfl) dX0_readOneAnother_87 ?_
        refine g_iadd C dX0_readOneAnother_90 ?_
        refine g_sipush C (v := 255) dX0_readOneAnother_91 (by decide) ?_
        refine g_iand C dX0_readOneAnother_94 ?_
        refine g_iast_j C ha.r5 (i54) rfl hi54 (by decide) dX0_readOneAnother_95 ?_
        refine g_aload_n C dX0_readOneAnother_96 rfl rfl ?_
        refine gfX0_33 C ha.o ha.f10 dX0_readOneAnother_97 ?_
        refine g_iload_n C dX0_readOneAnother_100 rfl rfl ?_
        refine g_dup2_11 C dX0_readOneAnother_101 rfl rfl ?_
        refine g_iald_j C ha.r8 (i54) rfl hi54 (by decide) dX0_readOneAnother_102 ?_
        refine g_aload_n C dX0_readOneAnother_103 rfl rfl ?_
        refine gfX0_18 C ha.o ha.f5 dX0_readOneAnother_104 ?_
        refine g_iload_n C dX0_readOneAnother_107 rfl rfl ?_
        refine g_iald_j C ha.r3 (i54) rfl hi54 (by decide) dX0_readOneAnother_108 ?_
        refine g_iload_n C dX0_readOneAnother_109 rfl rfl ?_
        refine g_iand C dX0_readOneAnother_110 ?_
        refine kX0_88 C hN (tbitCount _) ⟨⟨Nat.le_of_ble_eq_true rfl, Nat.le_of_ble_eq_true rfl⟩, Nat.le_of_ble_eq_true rfl, Nat.le_of_ble_eq_true rfl⟩ (Nat.le_of_ble_eq_true rfl) dX0_readOneAnother_111 ?_
        refine g_iadd C dX0_readOneAnother_114 ?_
        refine g_iast_j C ha.r8 (i54) rfl hi54 (by decide) dX0_readOneAnother_115 ?_
        refine g_iinc C dX0_readOneAnother_116 rfl (nI_inc _) (by decide) rfl ?_
        refine g_goto C (tgt := 54) dX0_readOneAnother_119 (by decide) ?_
        exact G_cast ih54 (by first | rfl | (simp only [lp, ro2C, c66, ↓reduceIte, Bool.false_eq_true, reduceCtorEq]; first | done | rfl)) rfl rfl rfl
    · skip
      refine g_iload_n C dX0_readOneAnother_54 rfl rfl ?_
      refine g_bipush C (v := 8) dX0_readOneAnother_55 (by decide) ?_
      refine g_icmp_ge C (tgt := 122) dX0_readOneAnother_57 (by decide) (fun _ => ?_) (fun c57 => absurd (nI_lee rfl) c57)
      exact g_vret C hr dX0_readOneAnother_122 ⟨rfl, rfl, rfl⟩

set_option maxRecDepth 100000 in
set_option maxHeartbeats 4000000 in
theorem tX0_keepOrLose {l : Launch} {E : EE} {N : Nat} {I : Mi} {F : Mr} {a : Nat} (ha : CH N F a) (hN : 0 < N) {i : Nat} (hi : i < 8)  : CtF l E mX0_keepOrLose [rf E a, .int (nI i)] N I F N none (keepC I a i) F := by
  refine CtF_of [some (rf E a), some (.int (nI i))] (by decide) rfl (Nat.le_of_ble_eq_true rfl) rfl (fun p e s m args below meth c C hr hname => ?_)
  refine g_iload_n C dX0_keepOrLose_0 rfl rfl ?_
  refine kX0_73 C hN (tX0_isPlace _) ⟨⟨Nat.le_of_ble_eq_true rfl, Nat.le_of_ble_eq_true rfl⟩, Nat.le_of_ble_eq_true rfl, Nat.le_of_ble_eq_true rfl⟩ (Nat.le_of_ble_eq_true rfl) dX0_keepOrLose_1 ?_
  refine g_ifne_b C (tgt := 8) dX0_keepOrLose_4 (by decide) (fun _ => ?_) (fun c4 => (bt_f (isP_n hi) c4).elim)
  refine g_aload_n C dX0_keepOrLose_8 rfl rfl ?_
  refine gfX0_58 C ha.o dX0_keepOrLose_9 ?_
  refine g_iload_n C dX0_keepOrLose_12 rfl rfl ?_
  refine kX0_77 C hN (tX4_isIn _ _) ⟨⟨Nat.le_of_ble_eq_true rfl, Nat.le_of_ble_eq_true rfl⟩, Nat.le_of_ble_eq_true rfl, Nat.le_of_ble_eq_true rfl⟩ (Nat.le_of_ble_eq_true rfl) dX0_keepOrLose_13 ?_
  refine g_ifeq_b C (tgt := 34) dX0_keepOrLose_16 (by decide) (fun c16 => ?_) (fun c16 => ?_)
  · skip
    refine g_aload_n C dX0_keepOrLose_34 rfl rfl ?_
    refine gfX0_24 C ha.o ha.f7 dX0_keepOrLose_35 ?_
    refine g_iload_n C dX0_keepOrLose_38 rfl rfl ?_
    refine g_iald_j C ha.r5 (i) rfl hi (by decide) dX0_keepOrLose_39 ?_
    refine g_if_le C (tgt := 53) dX0_keepOrLose_40 (by decide) (fun c40 => ?_) (fun c40 => ?_)
    · skip
      refine g_aload_n C dX0_keepOrLose_53 rfl rfl ?_
      refine gfX0_24 C ha.o ha.f7 dX0_keepOrLose_54 ?_
      refine g_iload_n C dX0_keepOrLose_57 rfl rfl ?_
      refine g_iconst C (v := 0) dX0_keepOrLose_58 (by decide) ?_
      refine g_iast_j C ha.r5 (i) rfl hi (by decide) dX0_keepOrLose_59 ?_
      exact g_vret C hr dX0_keepOrLose_60 ⟨rfl, by simp only [keepC, c16, c40, ↓reduceIte, Bool.false_eq_true], rfl⟩
    · skip
      refine g_aload_n C dX0_keepOrLose_43 rfl rfl ?_
      refine g_dup C dX0_keepOrLose_44 rfl ?_
      refine gfX0_67 C ha.o dX0_keepOrLose_45 ?_
      refine g_iconst C (v := 1) dX0_keepOrLose_48 (by decide) ?_
      refine g_iadd C dX0_keepOrLose_49 ?_
      refine pfX0_67 C ha.o dX0_keepOrLose_50 ?_
      refine g_aload_n C dX0_keepOrLose_53 rfl rfl ?_
      refine gfX0_24 C ha.o ha.f7 dX0_keepOrLose_54 ?_
      refine g_iload_n C dX0_keepOrLose_57 rfl rfl ?_
      refine g_iconst C (v := 0) dX0_keepOrLose_58 (by decide) ?_
      refine g_iast_j C ha.r5 (i) rfl hi (by decide) dX0_keepOrLose_59 ?_
      exact g_vret C hr dX0_keepOrLose_60 ⟨rfl, by simp only [keepC, c16, c40, ↓reduceIte, Bool.false_eq_true], rfl⟩
  · skip
    refine g_aload_n C dX0_keepOrLose_19 rfl rfl ?_
    refine gfX0_27 C ha.o ha.f8 dX0_keepOrLose_20 ?_
    refine g_iload_n C dX0_keepOrLose_23 rfl rfl ?_
    refine g_aload_n C dX0_keepOrLose_24 rfl rfl ?_
    refine gfX0_24 C ha.o ha.f7 dX0_keepOrLose_25 ?_
    refine g_iload_n C dX0_keepOrLose_28 rfl rfl ?_
    refine g_iald_j C ha.r5 (i) rfl hi (by decide) dX0_keepOrLose_29 ?_
    refine g_iast_j C ha.r6 (i) rfl hi (by decide) dX0_keepOrLose_30 ?_
    refine g_goto C (tgt := 53) dX0_keepOrLose_31 (by decide) ?_
    refine g_aload_n C dX0_keepOrLose_53 rfl rfl ?_
    refine gfX0_24 C ha.o ha.f7 dX0_keepOrLose_54 ?_
    refine g_iload_n C dX0_keepOrLose_57 rfl rfl ?_
    refine g_iconst C (v := 0) dX0_keepOrLose_58 (by decide) ?_
    refine g_iast_j C ha.r5 (i) rfl hi (by decide) dX0_keepOrLose_59 ?_
    exact g_vret C hr dX0_keepOrLose_60 ⟨rfl, by simp only [keepC, c16, ↓reduceIte, Bool.false_eq_true], rfl⟩

set_option maxRecDepth 100000 in
set_option maxHeartbeats 4000000 in
theorem tX0_endFalling {l : Launch} {E : EE} {N : Nat} {I : Mi} {F : Mr} {a : Nat} (ha : CH N F a) (hN : 0 < N)  : CtF l E mX0_endFalling [rf E a] N I F N none (fallC I a) F := by
  refine CtF_of [some (rf E a), none] (by decide) rfl (Nat.le_of_ble_eq_true rfl) rfl (fun p e s m args below meth c C hr hname => ?_)
  refine g_iconst C (v := 0) dX0_endFalling_0 (by decide) ?_
  refine g_istore_n C dX0_endFalling_1 rfl (by decide) rfl ?_
  refine G_loop (n := 8) (fun i => [some (rf E a), some (.int (nI i))]) (fun i => lp (fun i I => if I (a + 4) i = 1 then keepC (up I (a + 4) i 2) a i else I) i I) (fun _ => F) rfl rfl rfl ?_ ?_
  · intro i2 hi2 ih2
    refine g_iload_n C dX0_endFalling_2 rfl rfl ?_
    refine g_bipush C (v := 8) dX0_endFalling_3 (by decide) ?_
    refine g_icmp_ge C (tgt := 36) dX0_endFalling_5 (by decide) (fun c5 => absurd c5 (nI_nge rfl hi2 (by decide))) (fun _ => ?_)
    refine g_aload_n C dX0_endFalling_8 rfl rfl ?_
    refine gfX0_21 C ha.o ha.f6 dX0_endFalling_9 ?_
    refine g_iload_n C dX0_endFalling_12 rfl rfl ?_
    refine g_iald_j C ha.r4 (i2) rfl hi2 (by decide) dX0_endFalling_13 ?_
    refine g_iconst C (v := 1) dX0_endFalling_14 (by decide) ?_
    refine g_icmp_ne C (tgt := 30) dX0_endFalling_15 (by decide) (fun c15 => ?_) (fun c15 => ?_)
    · skip
      refine g_iinc C dX0_endFalling_30 rfl (nI_inc _) (by decide) rfl ?_
      refine g_goto C (tgt := 2) dX0_endFalling_33 (by decide) ?_
      exact G_cast ih2 (by first | rfl | (simp only [lp, c15, ↓reduceIte, Bool.false_eq_true, reduceCtorEq]; first | done | rfl)) rfl rfl rfl
    · skip
      refine g_aload_n C dX0_endFalling_18 rfl rfl ?_
      refine gfX0_21 C ha.o ha.f6 dX0_endFalling_19 ?_
      refine g_iload_n C dX0_endFalling_22 rfl rfl ?_
      refine g_iconst C (v := 2) dX0_endFalling_23 (by decide) ?_
      refine g_iast_j C ha.r4 (i2) rfl hi2 (by decide) dX0_endFalling_24 ?_
      refine g_aload_n C dX0_endFalling_25 rfl rfl ?_
      refine g_iload_n C dX0_endFalling_26 rfl rfl ?_
      refine kX0_131 C ha.o (tX0_keepOrLose ha hN hi2) ⟨⟨Nat.le_of_ble_eq_true rfl, Nat.le_of_ble_eq_true rfl⟩, Nat.le_of_ble_eq_true rfl, Nat.le_of_ble_eq_true rfl⟩ (Nat.le_of_ble_eq_true rfl) dX0_endFalling_27 ?_
      refine g_iinc C dX0_endFalling_30 rfl (nI_inc _) (by decide) rfl ?_
      refine g_goto C (tgt := 2) dX0_endFalling_33 (by decide) ?_
      exact G_cast ih2 (by first | rfl | (simp only [lp, c15, ↓reduceIte, Bool.false_eq_true, reduceCtorEq]; first | done | rfl)) rfl rfl rfl
  · skip
    refine g_iload_n C dX0_endFalling_2 rfl rfl ?_
    refine g_bipush C (v := 8) dX0_endFalling_3 (by decide) ?_
    refine g_icmp_ge C (tgt := 36) dX0_endFalling_5 (by decide) (fun _ => ?_) (fun c5 => absurd (nI_lee rfl) c5)
    exact g_vret C hr dX0_endFalling_36 ⟨rfl, rfl, rfl⟩

set_option maxRecDepth 100000 in
set_option maxHeartbeats 4000000 in
theorem tX0_endRising {l : Launch} {E : EE} {N : Nat} {I : Mi} {F : Mr} {a : Nat} (ha : CH N F a) (hN : 0 < N) {i : Nat} (hi : i < 8)  : CtF l E mX0_endRising [rf E a, .int (nI i)] N I F N none (endRC I a i) F := by
  refine CtF_of [some (rf E a), some (.int (nI i))] (by decide) rfl (Nat.le_of_ble_eq_true rfl) rfl (fun p e s m args below meth c C hr hname => ?_)
  refine g_iload_n C dX0_endRising_0 rfl rfl ?_
  refine kX0_73 C hN (tX0_isPlace _) ⟨⟨Nat.le_of_ble_eq_true rfl, Nat.le_of_ble_eq_true rfl⟩, Nat.le_of_ble_eq_true rfl, Nat.le_of_ble_eq_true rfl⟩ (Nat.le_of_ble_eq_true rfl) dX0_endRising_1 ?_
  refine g_ifne_b C (tgt := 8) dX0_endRising_4 (by decide) (fun _ => ?_) (fun c4 => (bt_f (isP_n hi) c4).elim)
  refine g_aload_n C dX0_endRising_8 rfl rfl ?_
  refine gfX0_21 C ha.o ha.f6 dX0_endRising_9 ?_
  refine g_iload_n C dX0_endRising_12 rfl rfl ?_
  refine g_iconst C (v := 0) dX0_endRising_13 (by decide) ?_
  refine g_iast_j C ha.r4 (i) rfl hi (by decide) dX0_endRising_14 ?_
  refine g_aload_n C dX0_endRising_15 rfl rfl ?_
  refine gfX0_58 C ha.o dX0_endRising_16 ?_
  refine g_iload_n C dX0_endRising_19 rfl rfl ?_
  refine kX0_77 C hN (tX4_isIn _ _) ⟨⟨Nat.le_of_ble_eq_true rfl, Nat.le_of_ble_eq_true rfl⟩, Nat.le_of_ble_eq_true rfl, Nat.le_of_ble_eq_true rfl⟩ (Nat.le_of_ble_eq_true rfl) dX0_endRising_20 ?_
  refine g_ifeq_b C (tgt := 38) dX0_endRising_23 (by decide) (fun c23 => ?_) (fun c23 => ?_)
  · skip
    exact g_vret C hr dX0_endRising_38 ⟨rfl, by simp only [endRC, c23, ↓reduceIte, Bool.false_eq_true], rfl⟩
  · skip
    refine g_aload_n C dX0_endRising_26 rfl rfl ?_
    refine gfX0_24 C ha.o ha.f7 dX0_endRising_27 ?_
    refine g_iload_n C dX0_endRising_30 rfl rfl ?_
    refine g_aload_n C dX0_endRising_31 rfl rfl ?_
    refine gfX0_27 C ha.o ha.f8 dX0_endRising_32 ?_
    refine g_iload_n C dX0_endRising_35 rfl rfl ?_
    refine g_iald_j C ha.r6 (i) rfl hi (by decide) dX0_endRising_36 ?_
    refine g_iast_j C ha.r5 (i) rfl hi (by decide) dX0_endRising_37 ?_
    exact g_vret C hr dX0_endRising_38 ⟨rfl, by simp only [endRC, c23, ↓reduceIte, Bool.false_eq_true], rfl⟩

set_option maxRecDepth 100000 in
set_option maxHeartbeats 4000000 in
theorem tX0_goOnRising {l : Launch} {E : EE} {N : Nat} {I : Mi} {F : Mr} {a : Nat} (ha : CH N F a) (hN : 0 < N)  : CtF l E mX0_goOnRising [rf E a] N I F N none (riseC I a) F := by
  refine CtF_of [some (rf E a), none] (by decide) rfl (Nat.le_of_ble_eq_true rfl) rfl (fun p e s m args below meth c C hr hname => ?_)
  refine g_iconst C (v := 0) dX0_goOnRising_0 (by decide) ?_
  refine g_istore_n C dX0_goOnRising_1 rfl (by decide) rfl ?_
  refine G_loop (n := 8) (fun i => [some (rf E a), some (.int (nI i))]) (fun i => lp (riB a) i I) (fun _ => F) rfl rfl rfl ?_ ?_
  · intro i2 hi2 ih2
    refine g_iload_n C dX0_goOnRising_2 rfl rfl ?_
    refine g_bipush C (v := 8) dX0_goOnRising_3 (by decide) ?_
    refine g_icmp_ge C (tgt := 48) dX0_goOnRising_5 (by decide) (fun c5 => absurd c5 (nI_nge rfl hi2 (by decide))) (fun _ => ?_)
    refine g_aload_n C dX0_goOnRising_8 rfl rfl ?_
    refine gfX0_21 C ha.o ha.f6 dX0_goOnRising_9 ?_
    refine g_iload_n C dX0_goOnRising_12 rfl rfl ?_
    refine g_iald_j C ha.r4 (i2) rfl hi2 (by decide) dX0_goOnRising_13 ?_
    refine g_iconst C (v := 4) dX0_goOnRising_14 (by decide) ?_
    refine g_icmp_ne C (tgt := 42) dX0_goOnRising_15 (by decide) (fun c15 => ?_) (fun c15 => ?_)
    · skip
      refine g_iinc C dX0_goOnRising_42 rfl (nI_inc _) (by decide) rfl ?_
      refine g_goto C (tgt := 2) dX0_goOnRising_45 (by decide) ?_
      exact G_cast ih2 (by first | rfl | (simp only [lp, riB, c15, ↓reduceIte, Bool.false_eq_true, reduceCtorEq]; first | done | rfl)) rfl rfl rfl
    · skip
      refine g_aload_n C dX0_goOnRising_18 rfl rfl ?_
      refine gfX0_30 C ha.o ha.f9 dX0_goOnRising_19 ?_
      refine g_iload_n C dX0_goOnRising_22 rfl rfl ?_
      refine g_dup2_11 C dX0_goOnRising_23 rfl rfl ?_
      refine g_iald_j C ha.r7 (i2) rfl hi2 (by decide) dX0_goOnRising_24 ?_
      refine g_iconst C (v := 1) dX0_goOnRising_25 (by decide) ?_
      refine g_isub C dX0_goOnRising_26 ?_
      refine g_iast_j C ha.r7 (i2) rfl hi2 (by decide) dX0_goOnRising_27 ?_
      refine g_aload_n C dX0_goOnRising_28 rfl rfl ?_
      refine gfX0_30 C ha.o ha.f9 dX0_goOnRising_29 ?_
      refine g_iload_n C dX0_goOnRising_32 rfl rfl ?_
      refine g_iald_j C ha.r7 (i2) rfl hi2 (by decide) dX0_goOnRising_33 ?_
      refine g_if_gt C (tgt := 42) dX0_goOnRising_34 (by decide) (fun c34 => ?_) (fun c34 => ?_)
      · skip
        refine g_iinc C dX0_goOnRising_42 rfl (nI_inc _) (by decide) rfl ?_
        refine g_goto C (tgt := 2) dX0_goOnRising_45 (by decide) ?_
        exact G_cast ih2 (by first | rfl | (simp only [lp, riB, c15, c34, ↓reduceIte, Bool.false_eq_true, reduceCtorEq]; first | done | rfl)) rfl rfl rfl
      · skip
        refine g_aload_n C dX0_goOnRising_37 rfl rfl ?_
        refine g_iload_n C dX0_goOnRising_38 rfl rfl ?_
        refine kX0_134 C ha.o (tX0_endRising ha hN hi2) ⟨⟨Nat.le_of_ble_eq_true rfl, Nat.le_of_ble_eq_true rfl⟩, Nat.le_of_ble_eq_true rfl, Nat.le_of_ble_eq_true rfl⟩ (Nat.le_of_ble_eq_true rfl) dX0_goOnRising_39 ?_
        refine g_iinc C dX0_goOnRising_42 rfl (nI_inc _) (by decide) rfl ?_
        refine g_goto C (tgt := 2) dX0_goOnRising_45 (by decide) ?_
        exact G_cast ih2 (by first | rfl | (simp only [lp, riB, c15, c34, ↓reduceIte, Bool.false_eq_true, reduceCtorEq]; first | done | rfl)) rfl rfl rfl
  · skip
    refine g_iload_n C dX0_goOnRising_2 rfl rfl ?_
    refine g_bipush C (v := 8) dX0_goOnRising_3 (by decide) ?_
    refine g_icmp_ge C (tgt := 48) dX0_goOnRising_5 (by decide) (fun _ => ?_) (fun c5 => absurd (nI_lee rfl) c5)
    exact g_vret C hr dX0_goOnRising_48 ⟨rfl, rfl, rfl⟩

set_option maxRecDepth 100000 in
set_option maxHeartbeats 4000000 in
theorem tX0_askForSleepers {l : Launch} {E : EE} {N : Nat} {I : Mi} {F : Mr} {a : Nat} (ha : CH N F a) (hN : 0 < N)  : CtF l E mX0_askForSleepers [rf E a] N I F N none (askC I a) F := by
  refine CtF_of [some (rf E a), none, none] (by decide) rfl (Nat.le_of_ble_eq_true rfl) rfl (fun p e s m args below meth c C hr hname => ?_)
  refine g_iconst C (v := 0) dX0_askForSleepers_0 (by decide) ?_
  refine g_istore_n C dX0_askForSleepers_1 rfl (by decide) rfl ?_
  refine g_iconst C (v := 0) dX0_askForSleepers_2 (by decide) ?_
  refine g_istore_n C dX0_askForSleepers_3 rfl (by decide) rfl ?_
  refine G_loop (n := 8) (fun i => [some (rf E a), some (.int (lp (fun i acc => if I (a + 4) i = 0 then acc ||| I (a + 3) i else acc) i 0)), some (.int (nI i))]) (fun i => I) (fun _ => F) rfl rfl rfl ?_ ?_
  · intro i4 hi4 ih4
    refine g_iload_n C dX0_askForSleepers_4 rfl rfl ?_
    refine g_bipush C (v := 8) dX0_askForSleepers_5 (by decide) ?_
    refine g_icmp_ge C (tgt := 34) dX0_askForSleepers_7 (by decide) (fun c7 => absurd c7 (nI_nge rfl hi4 (by decide))) (fun _ => ?_)
    refine g_aload_n C dX0_askForSleepers_10 rfl rfl ?_
    refine gfX0_21 C ha.o ha.f6 dX0_askForSleepers_11 ?_
    refine g_iload_n C dX0_askForSleepers_14 rfl rfl ?_
    refine g_iald_j C ha.r4 (i4) rfl hi4 (by decide) dX0_askForSleepers_15 ?_
    refine g_if_ne C (tgt := 28) dX0_askForSleepers_16 (by decide) (fun c16 => ?_) (fun c16 => ?_)
    · skip
      refine g_iinc C dX0_askForSleepers_28 rfl (nI_inc _) (by decide) rfl ?_
      refine g_goto C (tgt := 4) dX0_askForSleepers_31 (by decide) ?_
      exact G_cast ih4 rfl rfl (by first | rfl | (simp only [lp, c16, ↓reduceIte, Bool.false_eq_true, reduceCtorEq]; first | done | rfl)) rfl
    · skip
      refine g_iload_n C dX0_askForSleepers_19 rfl rfl ?_
      refine g_aload_n C dX0_askForSleepers_20 rfl rfl ?_
      refine gfX0_18 C ha.o ha.f5 dX0_askForSleepers_21 ?_
      refine g_iload_n C dX0_askForSleepers_24 rfl rfl ?_
      refine g_iald_j C ha.r3 (i4) rfl hi4 (by decide) dX0_askForSleepers_25 ?_
      refine g_ior C dX0_askForSleepers_26 ?_
      refine g_istore_n C dX0_askForSleepers_27 rfl (by decide) rfl ?_
      refine g_iinc C dX0_askForSleepers_28 rfl (nI_inc _) (by decide) rfl ?_
      refine g_goto C (tgt := 4) dX0_askForSleepers_31 (by decide) ?_
      exact G_cast ih4 rfl rfl (by first | rfl | (simp only [lp, c16, ↓reduceIte, Bool.false_eq_true, reduceCtorEq]; first | done | rfl)) rfl
  · skip
    refine g_iload_n C dX0_askForSleepers_4 rfl rfl ?_
    refine g_bipush C (v := 8) dX0_askForSleepers_5 (by decide) ?_
    refine g_icmp_ge C (tgt := 34) dX0_askForSleepers_7 (by decide) (fun _ => ?_) (fun c7 => absurd (nI_lee rfl) c7)
    refine g_iconst C (v := 0) dX0_askForSleepers_34 (by decide) ?_
    refine g_istore_n C dX0_askForSleepers_35 rfl (by decide) rfl ?_
    refine G_loop (n := 8) (fun i => [some (rf E a), some (.int (rbaC I a)), some (.int (nI i))]) (fun i => lp (fun i J => if J (a + 4) i = 2 then (if isI (rbaC I a) (nI i) = true then otwC J a i else J) else J) i I) (fun _ => F) rfl rfl rfl ?_ ?_
    · intro i36 hi36 ih36
      refine g_iload_n C dX0_askForSleepers_36 rfl rfl ?_
      refine g_bipush C (v := 8) dX0_askForSleepers_37 (by decide) ?_
      refine g_icmp_ge C (tgt := 71) dX0_askForSleepers_39 (by decide) (fun c39 => absurd c39 (nI_nge rfl hi36 (by decide))) (fun _ => ?_)
      refine g_aload_n C dX0_askForSleepers_42 rfl rfl ?_
      refine gfX0_21 C ha.o ha.f6 dX0_askForSleepers_43 ?_
      refine g_iload_n C dX0_askForSleepers_46 rfl rfl ?_
      refine g_iald_j C ha.r4 (i36) rfl hi36 (by decide) dX0_askForSleepers_47 ?_
      refine g_iconst C (v := 2) dX0_askForSleepers_48 (by decide) ?_
      refine g_icmp_ne C (tgt := 65) dX0_askForSleepers_49 (by decide) (fun c49 => ?_) (fun c49 => ?_)
      · skip
        refine g_iinc C dX0_askForSleepers_65 rfl (nI_inc _) (by decide) rfl ?_
        refine g_goto C (tgt := 36) dX0_askForSleepers_68 (by decide) ?_
        exact G_cast ih36 (by first | rfl | (simp only [lp, c49, ↓reduceIte, Bool.false_eq_true, reduceCtorEq]; first | done | rfl)) rfl rfl rfl
      · skip
        refine g_iload_n C dX0_askForSleepers_52 rfl rfl ?_
        refine g_iload_n C dX0_askForSleepers_53 rfl rfl ?_
        refine kX0_77 C hN (tX4_isIn _ _) ⟨⟨Nat.le_of_ble_eq_true rfl, Nat.le_of_ble_eq_true rfl⟩, Nat.le_of_ble_eq_true rfl, Nat.le_of_ble_eq_true rfl⟩ (Nat.le_of_ble_eq_true rfl) dX0_askForSleepers_54 ?_
        refine g_ifeq_b C (tgt := 65) dX0_askForSleepers_57 (by decide) (fun c57 => ?_) (fun c57 => ?_)
        · skip
          refine g_iinc C dX0_askForSleepers_65 rfl (nI_inc _) (by decide) rfl ?_
          refine g_goto C (tgt := 36) dX0_askForSleepers_68 (by decide) ?_
          exact G_cast ih36 (by first | rfl | (simp only [lp, c49, c57, ↓reduceIte, Bool.false_eq_true, reduceCtorEq]; first | done | rfl)) rfl rfl rfl
        · skip
          refine g_aload_n C dX0_askForSleepers_60 rfl rfl ?_
          refine g_iload_n C dX0_askForSleepers_61 rfl rfl ?_
          refine kX0_93 C ha.o (tX0_orderToWake ha hN hi36) ⟨⟨Nat.le_of_ble_eq_true rfl, Nat.le_of_ble_eq_true rfl⟩, Nat.le_of_ble_eq_true rfl, Nat.le_of_ble_eq_true rfl⟩ (Nat.le_of_ble_eq_true rfl) dX0_askForSleepers_62 ?_
          refine g_iinc C dX0_askForSleepers_65 rfl (nI_inc _) (by decide) rfl ?_
          refine g_goto C (tgt := 36) dX0_askForSleepers_68 (by decide) ?_
          exact G_cast ih36 (by first | rfl | (simp only [lp, c49, c57, ↓reduceIte, Bool.false_eq_true, reduceCtorEq]; first | done | rfl)) rfl rfl rfl
    · skip
      refine g_iload_n C dX0_askForSleepers_36 rfl rfl ?_
      refine g_bipush C (v := 8) dX0_askForSleepers_37 (by decide) ?_
      refine g_icmp_ge C (tgt := 71) dX0_askForSleepers_39 (by decide) (fun _ => ?_) (fun c39 => absurd (nI_lee rfl) c39)
      exact g_vret C hr dX0_askForSleepers_71 ⟨rfl, rfl, rfl⟩
end
section
set_option maxRecDepth 100000 in
set_option maxHeartbeats 4000000 in
theorem tX0_beginRising {l : Launch} {E : EE} {N : Nat} {I : Mi} {F : Mr} {a : Nat} (ha : CH N F a) (hN : 0 < N)  : CtF l E mX0_beginRising [rf E a] N I F N none (begC I a) F := by
  refine CtF_of [some (rf E a), none, none, none, none] (by decide) rfl (Nat.le_of_ble_eq_true rfl) rfl (fun p e s m args below meth c C hr hname => ?_)
  refine g_aload_n C dX0_beginRising_0 rfl rfl ?_
  refine kX0_103 C ha.o (tX0_risingLoad ha) ⟨⟨Nat.le_of_ble_eq_true rfl, Nat.le_of_ble_eq_true rfl⟩, Nat.le_of_ble_eq_true rfl, Nat.le_of_ble_eq_true rfl⟩ (Nat.le_of_ble_eq_true rfl) dX0_beginRising_1 ?_
  refine g_istore_n C dX0_beginRising_4 rfl (by decide) rfl ?_
  refine g_iconst C (v := 0) dX0_beginRising_5 (by decide) ?_
  refine g_istore_n C dX0_beginRising_6 rfl (by decide) rfl ?_
  refine g_iconst C (v := 0) dX0_beginRising_7 (by decide) ?_
  refine g_istore_n C dX0_beginRising_8 rfl (by decide) rfl ?_
  refine G_loop (n := rnd (I a 12)) (fun i => [some (rf E a), some (.int (begR I a i).2.1), some (.int (begR I a i).2.2), some (.int (nI i)), none]) (fun i => (begR I a i).1) (fun _ => F) rfl rfl rfl ?_ ?_
  · intro i9 hi9 ih9
    have h12 : (begR I a i9).1 a 12 = I a 12 := brB_12 a _ i9
    refine g_iload_n C dX0_beginRising_9 rfl rfl ?_
    refine g_bipush C (v := 8) dX0_beginRising_10 (by decide) ?_
    refine g_icmp_ge C (tgt := 121) dX0_beginRising_12 (by decide) (fun c12 => absurd c12 (nI_nge rfl (Nat.lt_of_lt_of_le hi9 (Nat.min_le_left _ _)) (by decide))) (fun _ => ?_)
    refine g_iload_n C dX0_beginRising_15 rfl rfl ?_
    refine g_aload_n C dX0_beginRising_16 rfl rfl ?_
    refine gfX0_61 C ha.o dX0_beginRising_17 ?_
    rw [h12]
    refine g_icmp_ge C (tgt := 121) dX0_beginRising_20 (by decide) (fun c20 => absurd c20 (rnd_lt hi9)) (fun _ => ?_)
    refine g_aload_n C dX0_beginRising_23 rfl rfl ?_
    refine gfX0_36 C ha.o ha.f11 dX0_beginRising_24 ?_
    refine g_iload_n C dX0_beginRising_27 rfl rfl ?_
    refine g_iald_j C ha.r9 (i9) rfl (Nat.lt_of_lt_of_le hi9 (Nat.min_le_left _ _)) (by decide) dX0_beginRising_28 ?_
    refine g_istore C dX0_beginRising_29 (by decide) rfl ?_
    refine g_iload C dX0_beginRising_31 rfl ?_
    refine kX0_73 C hN (tX0_isPlace _) ⟨⟨Nat.le_of_ble_eq_true rfl, Nat.le_of_ble_eq_true rfl⟩, Nat.le_of_ble_eq_true rfl, Nat.le_of_ble_eq_true rfl⟩ (Nat.le_of_ble_eq_true rfl) dX0_beginRising_33 ?_
    refine g_ifne_b C (tgt := 42) dX0_beginRising_36 (by decide) (fun c36 => ?_) (fun c36 => ?_)
    · skip
      refine g_iload_n C dX0_beginRising_42 rfl rfl ?_
      refine g_if_eq C (tgt := 62) dX0_beginRising_43 (by decide) (fun c43 => ?_) (fun c43 => ?_)
      · skip
        refine g_iload_n C dX0_beginRising_62 rfl rfl ?_
        refine g_aload_n C dX0_beginRising_63 rfl rfl ?_
        refine gfX0_15 C ha.o ha.f4 dX0_beginRising_64 ?_
        refine g_iload C dX0_beginRising_67 rfl ?_
        refine g_iald C ha.r2 (isP_in c36) dX0_beginRising_69 ?_
        refine g_iadd C dX0_beginRising_70 ?_
        refine g_istore_n C dX0_beginRising_71 rfl (by decide) rfl ?_
        refine g_aload_n C dX0_beginRising_72 rfl rfl ?_
        refine gfX0_21 C ha.o ha.f6 dX0_beginRising_73 ?_
        refine g_iload C dX0_beginRising_76 rfl ?_
        refine g_iconst C (v := 4) dX0_beginRising_78 (by decide) ?_
        refine g_iast C ha.r4 (isP_in c36) dX0_beginRising_79 ?_
        refine g_aload_n C dX0_beginRising_80 rfl rfl ?_
        refine gfX0_30 C ha.o ha.f9 dX0_beginRising_81 ?_
        refine g_iload C dX0_beginRising_84 rfl ?_
        refine g_aload_n C dX0_beginRising_86 rfl rfl ?_
        refine gfX0_9 C ha.o ha.f3 dX0_beginRising_87 ?_
        refine g_iload C dX0_beginRising_90 rfl ?_
        refine g_iald C ha.r1 (isP_in c36) dX0_beginRising_92 ?_
        refine g_iast C ha.r7 (isP_in c36) dX0_beginRising_93 ?_
        refine g_goto C (tgt := 115) dX0_beginRising_94 (by decide) ?_
        refine g_iinc C dX0_beginRising_115 rfl (nI_inc _) (by decide) rfl ?_
        refine g_goto C (tgt := 9) dX0_beginRising_118 (by decide) ?_
        exact G_forget 4 (G_cast (ls2 := [some (rf E a), some (.int (begR I a (i9 + 1)).2.1), some (.int (begR I a (i9 + 1)).2.2), some (.int (nI (i9 + 1))), none]) (st2 := []) ih9 (by first | rfl | (simp only [lp, begR_s, brB, brA, c36, c43, ↓reduceIte, Bool.false_eq_true, reduceCtorEq]; first | done | rfl)) rfl (by first | rfl | (simp only [lp, begR_s, brB, brA, c36, c43, ↓reduceIte, Bool.false_eq_true, reduceCtorEq]; first | done | rfl)) rfl)
      · skip
        refine g_iload_n C dX0_beginRising_46 rfl rfl ?_
        refine g_aload_n C dX0_beginRising_47 rfl rfl ?_
        refine gfX0_15 C ha.o ha.f4 dX0_beginRising_48 ?_
        refine g_iload C dX0_beginRising_51 rfl ?_
        refine g_iald C ha.r2 (isP_in c36) dX0_beginRising_53 ?_
        refine g_iadd C dX0_beginRising_54 ?_
        refine g_aload_n C dX0_beginRising_55 rfl rfl ?_
        refine gfX0_42 C ha.o dX0_beginRising_56 ?_
        refine g_icmp_gt C (tgt := 97) dX0_beginRising_59 (by decide) (fun c59 => ?_) (fun c59 => ?_)
        · skip
          refine g_iload_n C dX0_beginRising_97 rfl rfl ?_
          refine kX0_73 C hN (tX0_isPlace _) ⟨⟨Nat.le_of_ble_eq_true rfl, Nat.le_of_ble_eq_true rfl⟩, Nat.le_of_ble_eq_true rfl, Nat.le_of_ble_eq_true rfl⟩ (Nat.le_of_ble_eq_true rfl) dX0_beginRising_98 ?_
          refine g_ifeq_b C (tgt := 115) dX0_beginRising_101 (by decide) (fun c101 => ?_) (fun c101 => ?_)
          · skip
            refine g_iinc C dX0_beginRising_115 rfl (nI_inc _) (by decide) rfl ?_
            refine g_goto C (tgt := 9) dX0_beginRising_118 (by decide) ?_
            exact G_forget 4 (G_cast (ls2 := [some (rf E a), some (.int (begR I a (i9 + 1)).2.1), some (.int (begR I a (i9 + 1)).2.2), some (.int (nI (i9 + 1))), none]) (st2 := []) ih9 (by first | rfl | (simp only [lp, begR_s, brB, brA, c36, c43, c59, c101, ↓reduceIte, Bool.false_eq_true, reduceCtorEq]; first | done | rfl)) rfl (by first | rfl | (simp only [lp, begR_s, brB, brA, c36, c43, c59, c101, ↓reduceIte, Bool.false_eq_true, reduceCtorEq]; first | done | rfl)) rfl)
          · skip
            refine g_aload_n C dX0_beginRising_104 rfl rfl ?_
            refine gfX0_36 C ha.o ha.f11 dX0_beginRising_105 ?_
            refine g_iload_n C dX0_beginRising_108 rfl rfl ?_
            refine g_iload C dX0_beginRising_109 rfl ?_
            refine g_iast C ha.r9 (isP_in c101) dX0_beginRising_111 ?_
            refine g_iinc C dX0_beginRising_112 rfl rfl (by decide) rfl ?_
            refine g_iinc C dX0_beginRising_115 rfl (nI_inc _) (by decide) rfl ?_
            refine g_goto C (tgt := 9) dX0_beginRising_118 (by decide) ?_
            exact G_forget 4 (G_cast (ls2 := [some (rf E a), some (.int (begR I a (i9 + 1)).2.1), some (.int (begR I a (i9 + 1)).2.2), some (.int (nI (i9 + 1))), none]) (st2 := []) ih9 (by first | rfl | (simp only [lp, begR_s, brB, brA, c36, c43, c59, c101, ↓reduceIte, Bool.false_eq_true, reduceCtorEq]; first | done | rfl)) rfl (by first | rfl | (simp only [lp, begR_s, brB, brA, c36, c43, c59, c101, ↓reduceIte, Bool.false_eq_true, reduceCtorEq]; first | done | rfl)) rfl)
        · skip
          refine g_iload_n C dX0_beginRising_62 rfl rfl ?_
          refine g_aload_n C dX0_beginRising_63 rfl rfl ?_
          refine gfX0_15 C ha.o ha.f4 dX0_beginRising_64 ?_
          refine g_iload C dX0_beginRising_67 rfl ?_
          refine g_iald C ha.r2 (isP_in c36) dX0_beginRising_69 ?_
          refine g_iadd C dX0_beginRising_70 ?_
          refine g_istore_n C dX0_beginRising_71 rfl (by decide) rfl ?_
          refine g_aload_n C dX0_beginRising_72 rfl rfl ?_
          refine gfX0_21 C ha.o ha.f6 dX0_beginRising_73 ?_
          refine g_iload C dX0_beginRising_76 rfl ?_
          refine g_iconst C (v := 4) dX0_beginRising_78 (by decide) ?_
          refine g_iast C ha.r4 (isP_in c36) dX0_beginRising_79 ?_
          refine g_aload_n C dX0_beginRising_80 rfl rfl ?_
          refine gfX0_30 C ha.o ha.f9 dX0_beginRising_81 ?_
          refine g_iload C dX0_beginRising_84 rfl ?_
          refine g_aload_n C dX0_beginRising_86 rfl rfl ?_
          refine gfX0_9 C ha.o ha.f3 dX0_beginRising_87 ?_
          refine g_iload C dX0_beginRising_90 rfl ?_
          refine g_iald C ha.r1 (isP_in c36) dX0_beginRising_92 ?_
          refine g_iast C ha.r7 (isP_in c36) dX0_beginRising_93 ?_
          refine g_goto C (tgt := 115) dX0_beginRising_94 (by decide) ?_
          refine g_iinc C dX0_beginRising_115 rfl (nI_inc _) (by decide) rfl ?_
          refine g_goto C (tgt := 9) dX0_beginRising_118 (by decide) ?_
          exact G_forget 4 (G_cast (ls2 := [some (rf E a), some (.int (begR I a (i9 + 1)).2.1), some (.int (begR I a (i9 + 1)).2.2), some (.int (nI (i9 + 1))), none]) (st2 := []) ih9 (by first | rfl | (simp only [lp, begR_s, brB, brA, c36, c43, c59, ↓reduceIte, Bool.false_eq_true, reduceCtorEq]; first | done | rfl)) rfl (by first | rfl | (simp only [lp, begR_s, brB, brA, c36, c43, c59, ↓reduceIte, Bool.false_eq_true, reduceCtorEq]; first | done | rfl)) rfl)
    · skip
      refine g_goto C (tgt := 115) dX0_beginRising_39 (by decide) ?_
      refine g_iinc C dX0_beginRising_115 rfl (nI_inc _) (by decide) rfl ?_
      refine g_goto C (tgt := 9) dX0_beginRising_118 (by decide) ?_
      exact G_forget 4 (G_cast (ls2 := [some (rf E a), some (.int (begR I a (i9 + 1)).2.1), some (.int (begR I a (i9 + 1)).2.2), some (.int (nI (i9 + 1))), none]) (st2 := []) ih9 (by first | rfl | (simp only [lp, begR_s, brB, brA, c36, ↓reduceIte, Bool.false_eq_true, reduceCtorEq]; first | done | rfl)) rfl (by first | rfl | (simp only [lp, begR_s, brB, brA, c36, ↓reduceIte, Bool.false_eq_true, reduceCtorEq]; first | done | rfl)) rfl)
  · skip
    have h12 : (begR I a (rnd (I a 12))).1 a 12 = I a 12 := brB_12 a _ _
    refine g_iload_n C dX0_beginRising_9 rfl rfl ?_
    refine g_bipush C (v := 8) dX0_beginRising_10 (by decide) ?_
    refine g_icmp_ge C (tgt := 121) dX0_beginRising_12 (by decide) (fun c12 => ?_) (fun c12 => ?_)
    · skip
      refine g_aload_n C dX0_beginRising_121 rfl rfl ?_
      refine g_iload_n C dX0_beginRising_122 rfl rfl ?_
      refine pfX0_61 C ha.o dX0_beginRising_123 ?_
      exact g_vret C hr dX0_beginRising_126 ⟨rfl, rfl, rfl⟩
    · skip
      refine g_iload_n C dX0_beginRising_15 rfl rfl ?_
      refine g_aload_n C dX0_beginRising_16 rfl rfl ?_
      refine gfX0_61 C ha.o dX0_beginRising_17 ?_
      rw [h12]
      refine g_icmp_ge C (tgt := 121) dX0_beginRising_20 (by decide) (fun _ => ?_) (fun c20 => absurd (rnd_ge c12) c20)
      refine g_aload_n C dX0_beginRising_121 rfl rfl ?_
      refine g_iload_n C dX0_beginRising_122 rfl rfl ?_
      refine pfX0_61 C ha.o dX0_beginRising_123 ?_
      exact g_vret C hr dX0_beginRising_126 ⟨rfl, rfl, rfl⟩
end
section
set_option maxRecDepth 100000 in
set_option maxHeartbeats 4000000 in
theorem tX0_moveOn {l : Launch} {E : EE} {N : Nat} {I : Mi} {F : Mr} {a : Nat} (ha : CH N F a) (hN : 0 < N)  : CtF l E mX0_moveOn [rf E a] N I F N none (mvC I a) F := by
  refine CtF_of [some (rf E a)] (by decide) rfl (Nat.le_of_ble_eq_true rfl) rfl (fun p e s m args below meth c C hr hname => ?_)
  refine g_aload_n C dX0_moveOn_0 rfl rfl ?_
  refine kX0_119 C ha.o (tX0_endFalling ha hN) ⟨⟨Nat.le_of_ble_eq_true rfl, Nat.le_of_ble_eq_true rfl⟩, Nat.le_of_ble_eq_true rfl, Nat.le_of_ble_eq_true rfl⟩ (Nat.le_of_ble_eq_true rfl) dX0_moveOn_1 ?_
  refine g_aload_n C dX0_moveOn_4 rfl rfl ?_
  refine kX0_122 C ha.o (tX0_goOnRising ha hN) ⟨⟨Nat.le_of_ble_eq_true rfl, Nat.le_of_ble_eq_true rfl⟩, Nat.le_of_ble_eq_true rfl, Nat.le_of_ble_eq_true rfl⟩ (Nat.le_of_ble_eq_true rfl) dX0_moveOn_5 ?_
  refine g_aload_n C dX0_moveOn_8 rfl rfl ?_
  refine gfX0_46 C ha.o dX0_moveOn_9 ?_
  refine g_iconst C (v := 1) dX0_moveOn_12 (by decide) ?_
  refine g_icmp_ne C (tgt := 20) dX0_moveOn_13 (by decide) (fun c13 => ?_) (fun c13 => ?_)
  · skip
    refine g_aload_n C dX0_moveOn_20 rfl rfl ?_
    refine kX0_128 C ha.o (tX0_beginRising ha hN) ⟨⟨Nat.le_of_ble_eq_true rfl, Nat.le_of_ble_eq_true rfl⟩, Nat.le_of_ble_eq_true rfl, Nat.le_of_ble_eq_true rfl⟩ (Nat.le_of_ble_eq_true rfl) dX0_moveOn_21 ?_
    exact g_vret C hr dX0_moveOn_24 ⟨rfl, by simp only [mvC, c13, ↓reduceIte], rfl⟩
  · skip
    refine g_aload_n C dX0_moveOn_16 rfl rfl ?_
    refine kX0_125 C ha.o (tX0_askForSleepers ha hN) ⟨⟨Nat.le_of_ble_eq_true rfl, Nat.le_of_ble_eq_true rfl⟩, Nat.le_of_ble_eq_true rfl, Nat.le_of_ble_eq_true rfl⟩ (Nat.le_of_ble_eq_true rfl) dX0_moveOn_17 ?_
    refine g_aload_n C dX0_moveOn_20 rfl rfl ?_
    refine kX0_128 C ha.o (tX0_beginRising ha hN) ⟨⟨Nat.le_of_ble_eq_true rfl, Nat.le_of_ble_eq_true rfl⟩, Nat.le_of_ble_eq_true rfl, Nat.le_of_ble_eq_true rfl⟩ (Nat.le_of_ble_eq_true rfl) dX0_moveOn_21 ?_
    exact g_vret C hr dX0_moveOn_24 ⟨rfl, by simp only [mvC, c13, ↓reduceIte], rfl⟩

set_option maxRecDepth 100000 in
set_option maxHeartbeats 4000000 in
theorem tX0_letPass {l : Launch} {E : EE} {N : Nat} {I : Mi} {F : Mr} {a : Nat} (ha : CH N F a) (hN : 0 < N) {n : Nat} (hn : n < 2147483648)  : CtF l E mX0_letPass [rf E a, .int (nI n)] N I F N none (passC I a n) F := by
  refine CtF_of [some (rf E a), some (.int (nI n)), none] (by decide) rfl (Nat.le_of_ble_eq_true rfl) rfl (fun p e s m args below meth c C hr hname => ?_)
  refine g_iconst C (v := 0) dX0_letPass_0 (by decide) ?_
  refine g_istore_n C dX0_letPass_1 rfl (by decide) rfl ?_
  refine G_loop (n := n) (fun i => [some (rf E a), some (.int (nI n)), some (.int (nI i))]) (fun i => lp (fun _ J => tickC J a) i I) (fun _ => F) rfl rfl rfl ?_ ?_
  · intro i2 hi2 ih2
    refine g_iload_n C dX0_letPass_2 rfl rfl ?_
    refine g_iload_n C dX0_letPass_3 rfl rfl ?_
    refine g_icmp_ge C (tgt := 46) dX0_letPass_4 (by decide) (fun c4 => absurd c4 (nI_nge rfl hi2 hn)) (fun _ => ?_)
    refine g_aload_n C dX0_letPass_7 rfl rfl ?_
    refine kX0_97 C ha.o (tX0_readOneAnother ha hN) ⟨⟨Nat.le_of_ble_eq_true rfl, Nat.le_of_ble_eq_true rfl⟩, Nat.le_of_ble_eq_true rfl, Nat.le_of_ble_eq_true rfl⟩ (Nat.le_of_ble_eq_true rfl) dX0_letPass_8 ?_
    refine g_aload_n C dX0_letPass_11 rfl rfl ?_
    refine kX0_100 C ha.o (tX0_moveOn ha hN) ⟨⟨Nat.le_of_ble_eq_true rfl, Nat.le_of_ble_eq_true rfl⟩, Nat.le_of_ble_eq_true rfl, Nat.le_of_ble_eq_true rfl⟩ (Nat.le_of_ble_eq_true rfl) dX0_letPass_12 ?_
    refine g_aload_n C dX0_letPass_15 rfl rfl ?_
    refine g_dup C dX0_letPass_16 rfl ?_
    refine gfX0_64 C ha.o dX0_letPass_17 ?_
    refine g_iconst C (v := 1) dX0_letPass_20 (by decide) ?_
    refine g_iadd C dX0_letPass_21 ?_
    refine pfX0_64 C ha.o dX0_letPass_22 ?_
    refine g_aload_n C dX0_letPass_25 rfl rfl ?_
    refine g_aload_n C dX0_letPass_26 rfl rfl ?_
    refine gfX0_70 C ha.o dX0_letPass_27 ?_
    refine g_aload_n C dX0_letPass_30 rfl rfl ?_
    refine kX0_103 C ha.o (tX0_risingLoad ha) ⟨⟨Nat.le_of_ble_eq_true rfl, Nat.le_of_ble_eq_true rfl⟩, Nat.le_of_ble_eq_true rfl, Nat.le_of_ble_eq_true rfl⟩ (Nat.le_of_ble_eq_true rfl) dX0_letPass_31 ?_
    refine kX0_107 C (Nat.le_of_ble_eq_true rfl) (Nat.le_of_ble_eq_true rfl) (Nat.le_of_ble_eq_true rfl) (Nat.le_of_ble_eq_true rfl) dX0_letPass_34 ?_
    refine pfX0_70 C ha.o dX0_letPass_37 ?_
    refine g_iinc C dX0_letPass_40 rfl (nI_inc _) (by decide) rfl ?_
    refine g_goto C (tgt := 2) dX0_letPass_43 (by decide) ?_
    exact G_cast ih2 rfl rfl rfl rfl
  · skip
    refine g_iload_n C dX0_letPass_2 rfl rfl ?_
    refine g_iload_n C dX0_letPass_3 rfl rfl ?_
    refine g_icmp_ge C (tgt := 46) dX0_letPass_4 (by decide) (fun _ => ?_) (fun c4 => absurd (nI_lee rfl) c4)
    exact g_vret C hr dX0_letPass_46 ⟨rfl, rfl, rfl⟩

set_option maxRecDepth 100000 in
set_option maxHeartbeats 4000000 in
theorem tX0_copyFrom {l : Launch} {E : EE} {N : Nat} {I : Mi} {F : Mr} {a : Nat} (ha : CH N F a) {b : Nat} (hb : CH N F b)  : CtF l E mX0_copyFrom [rf E a, rf E b] N I F N none (copyC I a b) F := by
  refine CtF_of [some (rf E a), some (rf E b), none] (by decide) rfl (Nat.le_of_ble_eq_true rfl) rfl (fun p e s m args below meth c C hr hname => ?_)
  refine g_aload_n C dX0_copyFrom_0 rfl rfl ?_
  refine g_aload_n C dX0_copyFrom_1 rfl rfl ?_
  refine gfX0_52 C hb.o dX0_copyFrom_2 ?_
  refine pfX0_52 C ha.o dX0_copyFrom_5 ?_
  refine g_aload_n C dX0_copyFrom_8 rfl rfl ?_
  refine g_aload_n C dX0_copyFrom_9 rfl rfl ?_
  refine gfX0_55 C hb.o dX0_copyFrom_10 ?_
  refine pfX0_55 C ha.o dX0_copyFrom_13 ?_
  refine g_aload_n C dX0_copyFrom_16 rfl rfl ?_
  refine g_aload_n C dX0_copyFrom_17 rfl rfl ?_
  refine gfX0_58 C hb.o dX0_copyFrom_18 ?_
  refine pfX0_58 C ha.o dX0_copyFrom_21 ?_
  refine g_aload_n C dX0_copyFrom_24 rfl rfl ?_
  refine g_aload_n C dX0_copyFrom_25 rfl rfl ?_
  refine gfX0_61 C hb.o dX0_copyFrom_26 ?_
  refine pfX0_61 C ha.o dX0_copyFrom_29 ?_
  refine g_aload_n C dX0_copyFrom_32 rfl rfl ?_
  refine g_aload_n C dX0_copyFrom_33 rfl rfl ?_
  refine gfX0_42 C hb.o dX0_copyFrom_34 ?_
  refine pfX0_42 C ha.o dX0_copyFrom_37 ?_
  refine g_aload_n C dX0_copyFrom_40 rfl rfl ?_
  refine g_aload_n C dX0_copyFrom_41 rfl rfl ?_
  refine gfX0_46 C hb.o dX0_copyFrom_42 ?_
  refine pfX0_46 C ha.o dX0_copyFrom_45 ?_
  refine g_aload_n C dX0_copyFrom_48 rfl rfl ?_
  refine g_aload_n C dX0_copyFrom_49 rfl rfl ?_
  refine gfX0_64 C hb.o dX0_copyFrom_50 ?_
  refine pfX0_64 C ha.o dX0_copyFrom_53 ?_
  refine g_aload_n C dX0_copyFrom_56 rfl rfl ?_
  refine g_aload_n C dX0_copyFrom_57 rfl rfl ?_
  refine gfX0_67 C hb.o dX0_copyFrom_58 ?_
  refine pfX0_67 C ha.o dX0_copyFrom_61 ?_
  refine g_aload_n C dX0_copyFrom_64 rfl rfl ?_
  refine g_aload_n C dX0_copyFrom_65 rfl rfl ?_
  refine gfX0_70 C hb.o dX0_copyFrom_66 ?_
  refine pfX0_70 C ha.o dX0_copyFrom_69 ?_
  refine g_iconst C (v := 0) dX0_copyFrom_72 (by decide) ?_
  refine g_istore_n C dX0_copyFrom_73 rfl (by decide) rfl ?_
  refine G_loop (n := 8) (fun i => [some (rf E a), some (rf E b), some (.int (nI i))]) (fun i => lp (cpyB a b) i (cpyS I a b)) (fun _ => F) rfl rfl rfl ?_ ?_
  · intro i74 hi74 ih74
    refine g_iload_n C dX0_copyFrom_74 rfl rfl ?_
    refine g_bipush C (v := 8) dX0_copyFrom_75 (by decide) ?_
    refine g_icmp_ge C (tgt := 194) dX0_copyFrom_77 (by decide) (fun c77 => absurd c77 (nI_nge rfl hi74 (by decide))) (fun _ => ?_)
    refine g_aload_n C dX0_copyFrom_80 rfl rfl ?_
    refine gfX0_9 C ha.o ha.f3 dX0_copyFrom_81 ?_
    refine g_iload_n C dX0_copyFrom_84 rfl rfl ?_
    refine g_aload_n C dX0_copyFrom_85 rfl rfl ?_
    refine gfX0_9 C hb.o hb.f3 dX0_copyFrom_86 ?_
    refine g_iload_n C dX0_copyFrom_89 rfl rfl ?_
    refine g_iald_j C hb.r1 (i74) rfl hi74 (by decide) dX0_copyFrom_90 ?_
    refine g_iast_j C ha.r1 (i74) rfl hi74 (by decide) dX0_copyFrom_91 ?_
    refine g_aload_n C dX0_copyFrom_92 rfl rfl ?_
    refine gfX0_15 C ha.o ha.f4 dX0_copyFrom_93 ?_
    refine g_iload_n C dX0_copyFrom_96 rfl rfl ?_
    refine g_aload_n C dX0_copyFrom_97 rfl rfl ?_
    refine gfX0_15 C hb.o hb.f4 dX0_copyFrom_98 ?_
    refine g_iload_n C dX0_copyFrom_101 rfl rfl ?_
    refine g_iald_j C hb.r2 (i74) rfl hi74 (by decide) dX0_copyFrom_102 ?_
    refine g_iast_j C ha.r2 (i74) rfl hi74 (by decide) dX0_copyFrom_103 ?_
    refine g_aload_n C dX0_copyFrom_104 rfl rfl ?_
    refine gfX0_18 C ha.o ha.f5 dX0_copyFrom_105 ?_
    refine g_iload_n C dX0_copyFrom_108 rfl rfl ?_
    refine g_aload_n C dX0_copyFrom_109 rfl rfl ?_
    refine gfX0_18 C hb.o hb.f5 dX0_copyFrom_110 ?_
    refine g_iload_n C dX0_copyFrom_113 rfl rfl ?_
    refine g_iald_j C hb.r3 (i74) rfl hi74 (by decide) dX0_copyFrom_114 ?_
    refine g_iast_j C ha.r3 (i74) rfl hi74 (by decide) dX0_copyFrom_115 ?_
    refine g_aload_n C dX0_copyFrom_116 rfl rfl ?_
    refine gfX0_21 C ha.o ha.f6 dX0_copyFrom_117 ?_
    refine g_iload_n C dX0_copyFrom_120 rfl rfl ?_
    refine g_aload_n C dX0_copyFrom_121 rfl rfl ?_
    refine gfX0_21 C hb.o hb.f6 dX0_copyFrom_122 ?_
    refine g_iload_n C dX0_copyFrom_125 rfl rfl ?_
    refine g_iald_j C hb.r4 (i74) rfl hi74 (by decide) dX0_copyFrom_126 ?_
    refine g_iast_j C ha.r4 (i74) rfl hi74 (by decide) dX0_copyFrom_127 ?_
    refine g_aload_n C dX0_copyFrom_128 rfl rfl ?_
    refine gfX0_24 C ha.o ha.f7 dX0_copyFrom_129 ?_
    refine g_iload_n C dX0_copyFrom_132 rfl rfl ?_
    refine g_aload_n C dX0_copyFrom_133 rfl rfl ?_
    refine gfX0_24 C hb.o hb.f7 dX0_copyFrom_134 ?_
    refine g_iload_n C dX0_copyFrom_137 rfl rfl ?_
    refine g_iald_j C hb.r5 (i74) rfl hi74 (by decide) dX0_copyFrom_138 ?_
    refine g_iast_j C ha.r5 (i74) rfl hi74 (by decide) dX0_copyFrom_139 ?_
    refine g_aload_n C dX0_copyFrom_140 rfl rfl ?_
    refine gfX0_27 C ha.o ha.f8 dX0_copyFrom_141 ?_
    refine g_iload_n C dX0_copyFrom_144 rfl rfl ?_
    refine g_aload_n C dX0_copyFrom_145 rfl rfl ?_
    refine gfX0_27 C hb.o hb.f8 dX0_copyFrom_146 ?_
    refine g_iload_n C dX0_copyFrom_149 rfl rfl ?_
    refine g_iald_j C hb.r6 (i74) rfl hi74 (by decide) dX0_copyFrom_150 ?_
    refine g_iast_j C ha.r6 (i74) rfl hi74 (by decide) dX0_copyFrom_151 ?_
    refine g_aload_n C dX0_copyFrom_152 rfl rfl ?_
    refine gfX0_30 C ha.o ha.f9 dX0_copyFrom_153 ?_
    refine g_iload_n C dX0_copyFrom_156 rfl rfl ?_
    refine g_aload_n C dX0_copyFrom_157 rfl rfl ?_
    refine gfX0_30 C hb.o hb.f9 dX0_copyFrom_158 ?_
    refine g_iload_n C dX0_copyFrom_161 rfl rfl ?_
    refine g_iald_j C hb.r7 (i74) rfl hi74 (by decide) dX0_copyFrom_162 ?_
    refine g_iast_j C ha.r7 (i74) rfl hi74 (by decide) dX0_copyFrom_163 ?_
    refine g_aload_n C dX0_copyFrom_164 rfl rfl ?_
    refine gfX0_33 C ha.o ha.f10 dX0_copyFrom_165 ?_
    refine g_iload_n C dX0_copyFrom_168 rfl rfl ?_
    refine g_aload_n C dX0_copyFrom_169 rfl rfl ?_
    refine gfX0_33 C hb.o hb.f10 dX0_copyFrom_170 ?_
    refine g_iload_n C dX0_copyFrom_173 rfl rfl ?_
    refine g_iald_j C hb.r8 (i74) rfl hi74 (by decide) dX0_copyFrom_174 ?_
    refine g_iast_j C ha.r8 (i74) rfl hi74 (by decide) dX0_copyFrom_175 ?_
    refine g_aload_n C dX0_copyFrom_176 rfl rfl ?_
    refine gfX0_36 C ha.o ha.f11 dX0_copyFrom_177 ?_
    refine g_iload_n C dX0_copyFrom_180 rfl rfl ?_
    refine g_aload_n C dX0_copyFrom_181 rfl rfl ?_
    refine gfX0_36 C hb.o hb.f11 dX0_copyFrom_182 ?_
    refine g_iload_n C dX0_copyFrom_185 rfl rfl ?_
    refine g_iald_j C hb.r9 (i74) rfl hi74 (by decide) dX0_copyFrom_186 ?_
    refine g_iast_j C ha.r9 (i74) rfl hi74 (by decide) dX0_copyFrom_187 ?_
    refine g_iinc C dX0_copyFrom_188 rfl (nI_inc _) (by decide) rfl ?_
    refine g_goto C (tgt := 74) dX0_copyFrom_191 (by decide) ?_
    exact G_cast ih74 rfl rfl rfl rfl
  · skip
    refine g_iload_n C dX0_copyFrom_74 rfl rfl ?_
    refine g_bipush C (v := 8) dX0_copyFrom_75 (by decide) ?_
    refine g_icmp_ge C (tgt := 194) dX0_copyFrom_77 (by decide) (fun _ => ?_) (fun c77 => absurd (nI_lee rfl) c77)
    exact g_vret C hr dX0_copyFrom_194 ⟨rfl, rfl, rfl⟩

set_option maxRecDepth 100000 in
set_option maxHeartbeats 4000000 in
theorem tX0_placeInQueue {l : Launch} {E : EE} {N : Nat} {I : Mi} {F : Mr} {a : Nat} (ha : CH N F a) (x : Int32)  : CtF l E mX0_placeInQueue [rf E a, .int x] N I F N (some (.int (pqC I a x 8 0))) I F := by
  refine CtF_of [some (rf E a), some (.int x), none] (by decide) rfl (Nat.le_of_ble_eq_true rfl) rfl (fun p e s m args below meth c C hr hname => ?_)
  refine g_iconst C (v := 0) dX0_placeInQueue_0 (by decide) ?_
  refine g_istore_n C dX0_placeInQueue_1 rfl (by decide) rfl ?_
  refine G_loopI (n := 8) (fun i => [some (rf E a), some (.int x), some (.int (nI i))]) (fun _ => I) (fun _ => F) (fun i => pqC I a x (8 - i) i = pqC I a x 8 0) rfl rfl rfl rfl ?_ ?_
  · intro i2 hi2 hv2 ih2
    rw [show 8 - i2 = (7 - i2) + 1 by omega, pqC] at hv2
    refine g_iload_n C dX0_placeInQueue_2 rfl rfl ?_
    refine g_bipush C (v := 8) dX0_placeInQueue_3 (by decide) ?_
    refine g_icmp_ge C (tgt := 34) dX0_placeInQueue_5 (by decide) (fun c5 => absurd c5 (nI_nge rfl hi2 (by decide))) (fun _ => ?_)
    refine g_iload_n C dX0_placeInQueue_8 rfl rfl ?_
    refine g_aload_n C dX0_placeInQueue_9 rfl rfl ?_
    refine gfX0_61 C ha.o dX0_placeInQueue_10 ?_
    refine g_icmp_ge C (tgt := 34) dX0_placeInQueue_13 (by decide) (fun c13 => ?_) (fun c13 => ?_)
    · skip
      refine g_bipush C (v := (-6)) dX0_placeInQueue_34 (by decide) ?_
      exact g_iret C hr dX0_placeInQueue_36 ⟨congrArg (fun z => some (Value.int z)) (by first | (simpa only [c13, ↓reduceIte] using hv2) | (simpa only [Nat.sub_self, pqC] using hv2)), rfl, rfl⟩
    · skip
      refine g_aload_n C dX0_placeInQueue_16 rfl rfl ?_
      refine gfX0_36 C ha.o ha.f11 dX0_placeInQueue_17 ?_
      refine g_iload_n C dX0_placeInQueue_20 rfl rfl ?_
      refine g_iald_j C ha.r9 (i2) rfl hi2 (by decide) dX0_placeInQueue_21 ?_
      refine g_iload_n C dX0_placeInQueue_22 rfl rfl ?_
      refine g_icmp_ne C (tgt := 28) dX0_placeInQueue_23 (by decide) (fun c23 => ?_) (fun c23 => ?_)
      · skip
        refine g_iinc C dX0_placeInQueue_28 rfl (nI_inc _) (by decide) rfl ?_
        refine g_goto C (tgt := 2) dX0_placeInQueue_31 (by decide) ?_
        exact ih2 (by rw [show 8 - (i2 + 1) = 7 - i2 by omega]; simpa only [c13, c23, ↓reduceIte] using hv2)
      · skip
        refine g_iload_n C dX0_placeInQueue_26 rfl rfl ?_
        exact g_iret C hr dX0_placeInQueue_27 ⟨congrArg (fun z => some (Value.int z)) (by simpa only [c13, c23, ↓reduceIte] using hv2), rfl, rfl⟩
  · intro hv2
    refine g_iload_n C dX0_placeInQueue_2 rfl rfl ?_
    refine g_bipush C (v := 8) dX0_placeInQueue_3 (by decide) ?_
    refine g_icmp_ge C (tgt := 34) dX0_placeInQueue_5 (by decide) (fun _ => ?_) (fun c5 => absurd (nI_lee rfl) c5)
    refine g_bipush C (v := (-6)) dX0_placeInQueue_34 (by decide) ?_
    exact g_iret C hr dX0_placeInQueue_36 ⟨congrArg (fun z => some (Value.int z)) (by first | (simpa only [lp, ↓reduceIte] using hv2) | (simpa only [Nat.sub_self, pqC] using hv2)), rfl, rfl⟩

set_option maxRecDepth 100000 in
set_option maxHeartbeats 4000000 in
theorem tX0_isAtRest {l : Launch} {E : EE} {N : Nat} {I : Mi} {F : Mr} {a : Nat} (ha : CH N F a)  : CtF l E mX0_isAtRest [rf E a] N I F N (some (.int (bi (restC I a 8 0)))) I F := by
  refine CtF_of [some (rf E a), none] (by decide) rfl (Nat.le_of_ble_eq_true rfl) rfl (fun p e s m args below meth c C hr hname => ?_)
  refine g_iconst C (v := 0) dX0_isAtRest_0 (by decide) ?_
  refine g_istore_n C dX0_isAtRest_1 rfl (by decide) rfl ?_
  refine G_loopI (n := 8) (fun i => [some (rf E a), some (.int (nI i))]) (fun _ => I) (fun _ => F) (fun i => restC I a (8 - i) i = restC I a 8 0) rfl rfl rfl rfl ?_ ?_
  · intro i2 hi2 hv2 ih2
    rw [show 8 - i2 = (7 - i2) + 1 by omega, restC] at hv2
    refine g_iload_n C dX0_isAtRest_2 rfl rfl ?_
    refine g_bipush C (v := 8) dX0_isAtRest_3 (by decide) ?_
    refine g_icmp_ge C (tgt := 46) dX0_isAtRest_5 (by decide) (fun c5 => absurd c5 (nI_nge rfl hi2 (by decide))) (fun _ => ?_)
    refine g_aload_n C dX0_isAtRest_8 rfl rfl ?_
    refine gfX0_21 C ha.o ha.f6 dX0_isAtRest_9 ?_
    refine g_iload_n C dX0_isAtRest_12 rfl rfl ?_
    refine g_iald_j C ha.r4 (i2) rfl hi2 (by decide) dX0_isAtRest_13 ?_
    refine g_iconst C (v := 1) dX0_isAtRest_14 (by decide) ?_
    refine g_icmp_eq C (tgt := 38) dX0_isAtRest_15 (by decide) (fun c15 => ?_) (fun c15 => ?_)
    · skip
      refine g_iconst C (v := 0) dX0_isAtRest_38 (by decide) ?_
      exact g_zret_0 C hr dX0_isAtRest_39 ⟨congrArg (fun z => some (Value.int (bi z))) (show false = _ by simpa only [c15, ↓reduceIte, ite_self] using hv2), rfl, rfl⟩
    · skip
      refine g_aload_n C dX0_isAtRest_18 rfl rfl ?_
      refine gfX0_21 C ha.o ha.f6 dX0_isAtRest_19 ?_
      refine g_iload_n C dX0_isAtRest_22 rfl rfl ?_
      refine g_iald_j C ha.r4 (i2) rfl hi2 (by decide) dX0_isAtRest_23 ?_
      refine g_iconst C (v := 3) dX0_isAtRest_24 (by decide) ?_
      refine g_icmp_eq C (tgt := 38) dX0_isAtRest_25 (by decide) (fun c25 => ?_) (fun c25 => ?_)
      · skip
        refine g_iconst C (v := 0) dX0_isAtRest_38 (by decide) ?_
        exact g_zret_0 C hr dX0_isAtRest_39 ⟨congrArg (fun z => some (Value.int (bi z))) (show false = _ by simpa only [c15, c25, ↓reduceIte, ite_self] using hv2), rfl, rfl⟩
      · skip
        refine g_aload_n C dX0_isAtRest_28 rfl rfl ?_
        refine gfX0_21 C ha.o ha.f6 dX0_isAtRest_29 ?_
        refine g_iload_n C dX0_isAtRest_32 rfl rfl ?_
        refine g_iald_j C ha.r4 (i2) rfl hi2 (by decide) dX0_isAtRest_33 ?_
        refine g_iconst C (v := 4) dX0_isAtRest_34 (by decide) ?_
        refine g_icmp_ne C (tgt := 40) dX0_isAtRest_35 (by decide) (fun c35 => ?_) (fun c35 => ?_)
        · skip
          refine g_iinc C dX0_isAtRest_40 rfl (nI_inc _) (by decide) rfl ?_
          refine g_goto C (tgt := 2) dX0_isAtRest_43 (by decide) ?_
          exact ih2 (by rw [show 8 - (i2 + 1) = 7 - i2 by omega]; simpa only [c15, c25, c35, ↓reduceIte] using hv2)
        · skip
          refine g_iconst C (v := 0) dX0_isAtRest_38 (by decide) ?_
          exact g_zret_0 C hr dX0_isAtRest_39 ⟨congrArg (fun z => some (Value.int (bi z))) (show false = _ by simpa only [c15, c25, c35, ↓reduceIte, ite_self] using hv2), rfl, rfl⟩
  · intro hv2
    refine g_iload_n C dX0_isAtRest_2 rfl rfl ?_
    refine g_bipush C (v := 8) dX0_isAtRest_3 (by decide) ?_
    refine g_icmp_ge C (tgt := 46) dX0_isAtRest_5 (by decide) (fun _ => ?_) (fun c5 => absurd (nI_lee rfl) c5)
    refine g_iconst C (v := 1) dX0_isAtRest_46 (by decide) ?_
    exact g_zret_1 C hr dX0_isAtRest_47 ⟨congrArg (fun z => some (Value.int (bi z))) (show true = _ by simpa only [Nat.sub_self, restC] using hv2), rfl, rfl⟩

set_option maxRecDepth 100000 in
set_option maxHeartbeats 4000000 in
theorem tX0_addIsland {l : Launch} {E : EE} {N : Nat} {I : Mi} {F : Mr} {a : Nat} (ha : CH N F a) (hN : 0 < N) {n : Nat} (hn8 : n < 8) (hn : I a 0 = nI n) (iso keep : Bool) (r d m : Int32)  : CtF l E mX0_addIsland [rf E a, .int (bi iso), .int (bi keep), .int r, .int d, .int m] N I F N none (addC I a n iso keep r d m) F := by
  refine CtF_of [some (rf E a), some (.int (bi iso)), some (.int (bi keep)), some (.int r), some (.int d), some (.int m), none] (by decide) rfl (Nat.le_of_ble_eq_true rfl) rfl (fun p e s m args below meth c C hr hname => ?_)
  refine g_aload_n C dX0_addIsland_0 rfl rfl ?_
  refine gfX0_52 C ha.o dX0_addIsland_1 ?_
  rw [hn]
  refine g_istore C dX0_addIsland_4 (by decide) rfl ?_
  refine g_iload C dX0_addIsland_6 rfl ?_
  refine kX0_73 C hN (tX0_isPlace _) ⟨⟨Nat.le_of_ble_eq_true rfl, Nat.le_of_ble_eq_true rfl⟩, Nat.le_of_ble_eq_true rfl, Nat.le_of_ble_eq_true rfl⟩ (Nat.le_of_ble_eq_true rfl) dX0_addIsland_8 ?_
  refine g_ifne_b C (tgt := 15) dX0_addIsland_11 (by decide) (fun _ => ?_) (fun c11 => (bt_f (isP_n hn8) c11).elim)
  refine g_aload_n C dX0_addIsland_15 rfl rfl ?_
  refine g_dup C dX0_addIsland_16 rfl ?_
  refine gfX0_52 C ha.o dX0_addIsland_17 ?_
  refine g_iconst C (v := 1) dX0_addIsland_20 (by decide) ?_
  refine g_iadd C dX0_addIsland_21 ?_
  refine pfX0_52 C ha.o dX0_addIsland_22 ?_
  refine g_iload_n C dX0_addIsland_25 rfl rfl ?_
  refine g_ifeq_b C (tgt := 42) dX0_addIsland_26 (by decide) (fun c26 => ?_) (fun c26 => ?_)
  · skip
    refine g_iload_n C dX0_addIsland_42 rfl rfl ?_
    refine g_ifeq_b C (tgt := 59) dX0_addIsland_43 (by decide) (fun c43 => ?_) (fun c43 => ?_)
    · skip
      refine g_aload_n C dX0_addIsland_59 rfl rfl ?_
      refine gfX0_9 C ha.o ha.f3 dX0_addIsland_60 ?_
      refine g_iload C dX0_addIsland_63 rfl ?_
      refine g_iload_n C dX0_addIsland_65 rfl rfl ?_
      refine g_iast_j C ha.r1 (n) rfl hn8 (by decide) dX0_addIsland_66 ?_
      refine g_aload_n C dX0_addIsland_67 rfl rfl ?_
      refine gfX0_15 C ha.o ha.f4 dX0_addIsland_68 ?_
      refine g_iload C dX0_addIsland_71 rfl ?_
      refine g_iload C dX0_addIsland_73 rfl ?_
      refine g_iast_j C ha.r2 (n) rfl hn8 (by decide) dX0_addIsland_75 ?_
      refine g_aload_n C dX0_addIsland_76 rfl rfl ?_
      refine gfX0_18 C ha.o ha.f5 dX0_addIsland_77 ?_
      refine g_iload C dX0_addIsland_80 rfl ?_
      refine g_iload C dX0_addIsland_82 rfl ?_
      refine g_iast_j C ha.r3 (n) rfl hn8 (by decide) dX0_addIsland_84 ?_
      refine g_aload_n C dX0_addIsland_85 rfl rfl ?_
      refine gfX0_21 C ha.o ha.f6 dX0_addIsland_86 ?_
      refine g_iload C dX0_addIsland_89 rfl ?_
      refine g_iconst C (v := 0) dX0_addIsland_91 (by decide) ?_
      refine g_iast_j C ha.r4 (n) rfl hn8 (by decide) dX0_addIsland_92 ?_
      exact g_vret C hr dX0_addIsland_93 ⟨rfl, by simp only [addC, sh1, hn, c26, c43, ↓reduceIte, Bool.false_eq_true], rfl⟩
    · skip
      refine g_aload_n C dX0_addIsland_46 rfl rfl ?_
      refine g_dup C dX0_addIsland_47 rfl ?_
      refine gfX0_58 C ha.o dX0_addIsland_48 ?_
      refine g_iconst C (v := 1) dX0_addIsland_51 (by decide) ?_
      refine g_iload C dX0_addIsland_52 rfl ?_
      refine g_ishl C dX0_addIsland_54 ?_
      refine g_ior C dX0_addIsland_55 ?_
      refine pfX0_58 C ha.o dX0_addIsland_56 ?_
      refine g_aload_n C dX0_addIsland_59 rfl rfl ?_
      refine gfX0_9 C ha.o ha.f3 dX0_addIsland_60 ?_
      refine g_iload C dX0_addIsland_63 rfl ?_
      refine g_iload_n C dX0_addIsland_65 rfl rfl ?_
      refine g_iast_j C ha.r1 (n) rfl hn8 (by decide) dX0_addIsland_66 ?_
      refine g_aload_n C dX0_addIsland_67 rfl rfl ?_
      refine gfX0_15 C ha.o ha.f4 dX0_addIsland_68 ?_
      refine g_iload C dX0_addIsland_71 rfl ?_
      refine g_iload C dX0_addIsland_73 rfl ?_
      refine g_iast_j C ha.r2 (n) rfl hn8 (by decide) dX0_addIsland_75 ?_
      refine g_aload_n C dX0_addIsland_76 rfl rfl ?_
      refine gfX0_18 C ha.o ha.f5 dX0_addIsland_77 ?_
      refine g_iload C dX0_addIsland_80 rfl ?_
      refine g_iload C dX0_addIsland_82 rfl ?_
      refine g_iast_j C ha.r3 (n) rfl hn8 (by decide) dX0_addIsland_84 ?_
      refine g_aload_n C dX0_addIsland_85 rfl rfl ?_
      refine gfX0_21 C ha.o ha.f6 dX0_addIsland_86 ?_
      refine g_iload C dX0_addIsland_89 rfl ?_
      refine g_iconst C (v := 0) dX0_addIsland_91 (by decide) ?_
      refine g_iast_j C ha.r4 (n) rfl hn8 (by decide) dX0_addIsland_92 ?_
      exact g_vret C hr dX0_addIsland_93 ⟨rfl, by simp only [addC, sh1, hn, c26, c43, ↓reduceIte, Bool.false_eq_true], rfl⟩
  · skip
    refine g_aload_n C dX0_addIsland_29 rfl rfl ?_
    refine g_dup C dX0_addIsland_30 rfl ?_
    refine gfX0_55 C ha.o dX0_addIsland_31 ?_
    refine g_iconst C (v := 1) dX0_addIsland_34 (by decide) ?_
    refine g_iload C dX0_addIsland_35 rfl ?_
    refine g_ishl C dX0_addIsland_37 ?_
    refine g_ior C dX0_addIsland_38 ?_
    refine pfX0_55 C ha.o dX0_addIsland_39 ?_
    refine g_iload_n C dX0_addIsland_42 rfl rfl ?_
    refine g_ifeq_b C (tgt := 59) dX0_addIsland_43 (by decide) (fun c43 => ?_) (fun c43 => ?_)
    · skip
      refine g_aload_n C dX0_addIsland_59 rfl rfl ?_
      refine gfX0_9 C ha.o ha.f3 dX0_addIsland_60 ?_
      refine g_iload C dX0_addIsland_63 rfl ?_
      refine g_iload_n C dX0_addIsland_65 rfl rfl ?_
      refine g_iast_j C ha.r1 (n) rfl hn8 (by decide) dX0_addIsland_66 ?_
      refine g_aload_n C dX0_addIsland_67 rfl rfl ?_
      refine gfX0_15 C ha.o ha.f4 dX0_addIsland_68 ?_
      refine g_iload C dX0_addIsland_71 rfl ?_
      refine g_iload C dX0_addIsland_73 rfl ?_
      refine g_iast_j C ha.r2 (n) rfl hn8 (by decide) dX0_addIsland_75 ?_
      refine g_aload_n C dX0_addIsland_76 rfl rfl ?_
      refine gfX0_18 C ha.o ha.f5 dX0_addIsland_77 ?_
      refine g_iload C dX0_addIsland_80 rfl ?_
      refine g_iload C dX0_addIsland_82 rfl ?_
      refine g_iast_j C ha.r3 (n) rfl hn8 (by decide) dX0_addIsland_84 ?_
      refine g_aload_n C dX0_addIsland_85 rfl rfl ?_
      refine gfX0_21 C ha.o ha.f6 dX0_addIsland_86 ?_
      refine g_iload C dX0_addIsland_89 rfl ?_
      refine g_iconst C (v := 0) dX0_addIsland_91 (by decide) ?_
      refine g_iast_j C ha.r4 (n) rfl hn8 (by decide) dX0_addIsland_92 ?_
      exact g_vret C hr dX0_addIsland_93 ⟨rfl, by simp only [addC, sh1, hn, c26, c43, ↓reduceIte, Bool.false_eq_true], rfl⟩
    · skip
      refine g_aload_n C dX0_addIsland_46 rfl rfl ?_
      refine g_dup C dX0_addIsland_47 rfl ?_
      refine gfX0_58 C ha.o dX0_addIsland_48 ?_
      refine g_iconst C (v := 1) dX0_addIsland_51 (by decide) ?_
      refine g_iload C dX0_addIsland_52 rfl ?_
      refine g_ishl C dX0_addIsland_54 ?_
      refine g_ior C dX0_addIsland_55 ?_
      refine pfX0_58 C ha.o dX0_addIsland_56 ?_
      refine g_aload_n C dX0_addIsland_59 rfl rfl ?_
      refine gfX0_9 C ha.o ha.f3 dX0_addIsland_60 ?_
      refine g_iload C dX0_addIsland_63 rfl ?_
      refine g_iload_n C dX0_addIsland_65 rfl rfl ?_
      refine g_iast_j C ha.r1 (n) rfl hn8 (by decide) dX0_addIsland_66 ?_
      refine g_aload_n C dX0_addIsland_67 rfl rfl ?_
      refine gfX0_15 C ha.o ha.f4 dX0_addIsland_68 ?_
      refine g_iload C dX0_addIsland_71 rfl ?_
      refine g_iload C dX0_addIsland_73 rfl ?_
      refine g_iast_j C ha.r2 (n) rfl hn8 (by decide) dX0_addIsland_75 ?_
      refine g_aload_n C dX0_addIsland_76 rfl rfl ?_
      refine gfX0_18 C ha.o ha.f5 dX0_addIsland_77 ?_
      refine g_iload C dX0_addIsland_80 rfl ?_
      refine g_iload C dX0_addIsland_82 rfl ?_
      refine g_iast_j C ha.r3 (n) rfl hn8 (by decide) dX0_addIsland_84 ?_
      refine g_aload_n C dX0_addIsland_85 rfl rfl ?_
      refine gfX0_21 C ha.o ha.f6 dX0_addIsland_86 ?_
      refine g_iload C dX0_addIsland_89 rfl ?_
      refine g_iconst C (v := 0) dX0_addIsland_91 (by decide) ?_
      refine g_iast_j C ha.r4 (n) rfl hn8 (by decide) dX0_addIsland_92 ?_
      exact g_vret C hr dX0_addIsland_93 ⟨rfl, by simp only [addC, sh1, hn, c26, c43, ↓reduceIte, Bool.false_eq_true], rfl⟩
end
