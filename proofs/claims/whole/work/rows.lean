section
-- ===== PART A: goes FIRST, ahead of the names: the tables' words, and 'selects' of the private methods out of them =====
/-- a private method of a class that the tables say can be made, by its rows of tables_1 -/
def lw_okq (q : MethodName × Nat) : Prop := (q.1.cls ≠ "java/lang/invoke/MethodHandle" ∧ q.1.cls ≠ "java/lang/invoke/VarHandle") ∧ Cond.instantiable q.1.cls q.2 ∈ tables_1 ∧ Cond.privateMethod q.1 ∈ tables_1 ∧ Cond.instanceMethod q.1 ∈ tables_1
theorem lw_p0 : lw_okq (⟨"FlightDesk$Receiver", "accept", "(I)I"⟩, 8) := ⟨⟨by decide +kernel, by decide +kernel⟩, List.mem_of_getElem? (i := 18) (by decide +kernel), List.mem_of_getElem? (i := 218) (by decide +kernel), List.mem_of_getElem? (i := 219) (by decide +kernel)⟩
theorem lw_p1 : lw_okq (⟨"FlightDesk$Receiver", "acceptLength", "(I)I"⟩, 8) := ⟨⟨by decide +kernel, by decide +kernel⟩, List.mem_of_getElem? (i := 18) (by decide +kernel), List.mem_of_getElem? (i := 222) (by decide +kernel), List.mem_of_getElem? (i := 223) (by decide +kernel)⟩
theorem lw_p2 : lw_okq (⟨"FlightDesk$Receiver", "acceptContent", "(I)I"⟩, 8) := ⟨⟨by decide +kernel, by decide +kernel⟩, List.mem_of_getElem? (i := 18) (by decide +kernel), List.mem_of_getElem? (i := 226) (by decide +kernel), List.mem_of_getElem? (i := 227) (by decide +kernel)⟩
theorem lw_p3 : lw_okq (⟨"FlightDesk$Receiver", "acceptCheck", "(I)I"⟩, 8) := ⟨⟨by decide +kernel, by decide +kernel⟩, List.mem_of_getElem? (i := 18) (by decide +kernel), List.mem_of_getElem? (i := 230) (by decide +kernel), List.mem_of_getElem? (i := 231) (by decide +kernel)⟩
theorem lw_p4 : lw_okq (⟨"FlightDesk$Receiver", "acceptBetweenFrames", "(I)I"⟩, 8) := ⟨⟨by decide +kernel, by decide +kernel⟩, List.mem_of_getElem? (i := 18) (by decide +kernel), List.mem_of_getElem? (i := 234) (by decide +kernel), List.mem_of_getElem? (i := 235) (by decide +kernel)⟩
theorem lw_p5 : lw_okq (⟨"FlightDesk", "obeyFrame", "()Z"⟩, 11) := ⟨⟨by decide +kernel, by decide +kernel⟩, List.mem_of_getElem? (i := 10) (by decide +kernel), List.mem_of_getElem? (i := 238) (by decide +kernel), List.mem_of_getElem? (i := 239) (by decide +kernel)⟩
theorem lw_p6 : lw_okq (⟨"FlightDesk$Command", "load", "([III)V"⟩, 2) := ⟨⟨by decide +kernel, by decide +kernel⟩, List.mem_of_getElem? (i := 55) (by decide +kernel), List.mem_of_getElem? (i := 242) (by decide +kernel), List.mem_of_getElem? (i := 243) (by decide +kernel)⟩
theorem lw_p7 : lw_okq (⟨"FlightDesk$Command", "part", "(I)I"⟩, 2) := ⟨⟨by decide +kernel, by decide +kernel⟩, List.mem_of_getElem? (i := 55) (by decide +kernel), List.mem_of_getElem? (i := 252) (by decide +kernel), List.mem_of_getElem? (i := 253) (by decide +kernel)⟩
theorem lw_p8 : lw_okq (⟨"FlightDesk$Store", "add", "(IIII)V"⟩, 7) := ⟨⟨by decide +kernel, by decide +kernel⟩, List.mem_of_getElem? (i := 102) (by decide +kernel), List.mem_of_getElem? (i := 288) (by decide +kernel), List.mem_of_getElem? (i := 289) (by decide +kernel)⟩
theorem lw_p9 : lw_okq (⟨"FlightDesk$Store", "removeOldest", "()V"⟩, 7) := ⟨⟨by decide +kernel, by decide +kernel⟩, List.mem_of_getElem? (i := 102) (by decide +kernel), List.mem_of_getElem? (i := 292) (by decide +kernel), List.mem_of_getElem? (i := 293) (by decide +kernel)⟩
theorem lw_p10 : lw_okq (⟨"FlightDesk", "carryOut", "(LFlightDesk$Command;I)Z"⟩, 11) := ⟨⟨by decide +kernel, by decide +kernel⟩, List.mem_of_getElem? (i := 10) (by decide +kernel), List.mem_of_getElem? (i := 296) (by decide +kernel), List.mem_of_getElem? (i := 297) (by decide +kernel)⟩
theorem lw_p11 : lw_okq (⟨"FlightDesk$Command", "service", "()I"⟩, 2) := ⟨⟨by decide +kernel, by decide +kernel⟩, List.mem_of_getElem? (i := 55) (by decide +kernel), List.mem_of_getElem? (i := 300) (by decide +kernel), List.mem_of_getElem? (i := 301) (by decide +kernel)⟩
theorem lw_p12 : lw_okq (⟨"FlightDesk", "refusalCode", "(LFlightDesk$Command;)I"⟩, 11) := ⟨⟨by decide +kernel, by decide +kernel⟩, List.mem_of_getElem? (i := 10) (by decide +kernel), List.mem_of_getElem? (i := 305) (by decide +kernel), List.mem_of_getElem? (i := 306) (by decide +kernel)⟩
theorem lw_p13 : lw_okq (⟨"FlightDesk$Plan", "isFull", "()Z"⟩, 5) := ⟨⟨by decide +kernel, by decide +kernel⟩, List.mem_of_getElem? (i := 72) (by decide +kernel), List.mem_of_getElem? (i := 312) (by decide +kernel), List.mem_of_getElem? (i := 313) (by decide +kernel)⟩
theorem lw_p14 : lw_okq (⟨"FlightDesk$Plan", "canShift", "(II)Z"⟩, 5) := ⟨⟨by decide +kernel, by decide +kernel⟩, List.mem_of_getElem? (i := 72) (by decide +kernel), List.mem_of_getElem? (i := 319) (by decide +kernel), List.mem_of_getElem? (i := 320) (by decide +kernel)⟩
theorem lw_p15 : lw_okq (⟨"FlightDesk", "parametersNotZero", "()I"⟩, 11) := ⟨⟨by decide +kernel, by decide +kernel⟩, List.mem_of_getElem? (i := 10) (by decide +kernel), List.mem_of_getElem? (i := 324) (by decide +kernel), List.mem_of_getElem? (i := 325) (by decide +kernel)⟩
def lw_privs_1 : List (MethodName × Nat) := [(⟨"FlightDesk$Receiver", "accept", "(I)I"⟩, 8), (⟨"FlightDesk$Receiver", "acceptLength", "(I)I"⟩, 8), (⟨"FlightDesk$Receiver", "acceptContent", "(I)I"⟩, 8), (⟨"FlightDesk$Receiver", "acceptCheck", "(I)I"⟩, 8), (⟨"FlightDesk$Receiver", "acceptBetweenFrames", "(I)I"⟩, 8), (⟨"FlightDesk", "obeyFrame", "()Z"⟩, 11), (⟨"FlightDesk$Command", "load", "([III)V"⟩, 2), (⟨"FlightDesk$Command", "part", "(I)I"⟩, 2), (⟨"FlightDesk$Store", "add", "(IIII)V"⟩, 7), (⟨"FlightDesk$Store", "removeOldest", "()V"⟩, 7), (⟨"FlightDesk", "carryOut", "(LFlightDesk$Command;I)Z"⟩, 11), (⟨"FlightDesk$Command", "service", "()I"⟩, 2), (⟨"FlightDesk", "refusalCode", "(LFlightDesk$Command;)I"⟩, 11), (⟨"FlightDesk$Plan", "isFull", "()Z"⟩, 5), (⟨"FlightDesk$Plan", "canShift", "(II)Z"⟩, 5), (⟨"FlightDesk", "parametersNotZero", "()I"⟩, 11)]
theorem lw_r1 : ∀ q ∈ lw_privs_1, lw_okq q := List.forall_mem_cons.mpr ⟨lw_p0, List.forall_mem_cons.mpr ⟨lw_p1, List.forall_mem_cons.mpr ⟨lw_p2, List.forall_mem_cons.mpr ⟨lw_p3, List.forall_mem_cons.mpr ⟨lw_p4, List.forall_mem_cons.mpr ⟨lw_p5, List.forall_mem_cons.mpr ⟨lw_p6, List.forall_mem_cons.mpr ⟨lw_p7, List.forall_mem_cons.mpr ⟨lw_p8, List.forall_mem_cons.mpr ⟨lw_p9, List.forall_mem_cons.mpr ⟨lw_p10, List.forall_mem_cons.mpr ⟨lw_p11, List.forall_mem_cons.mpr ⟨lw_p12, List.forall_mem_cons.mpr ⟨lw_p13, List.forall_mem_cons.mpr ⟨lw_p14, List.forall_mem_cons.mpr ⟨lw_p15, fun _ h => absurd h List.not_mem_nil⟩⟩⟩⟩⟩⟩⟩⟩⟩⟩⟩⟩⟩⟩⟩⟩
theorem lw_p16 : lw_okq (⟨"FlightDesk", "perform", "(LFlightDesk$Command;)V"⟩, 11) := ⟨⟨by decide +kernel, by decide +kernel⟩, List.mem_of_getElem? (i := 10) (by decide +kernel), List.mem_of_getElem? (i := 328) (by decide +kernel), List.mem_of_getElem? (i := 329) (by decide +kernel)⟩
theorem lw_p17 : lw_okq (⟨"FlightDesk", "setParameter", "(II)V"⟩, 11) := ⟨⟨by decide +kernel, by decide +kernel⟩, List.mem_of_getElem? (i := 10) (by decide +kernel), List.mem_of_getElem? (i := 332) (by decide +kernel), List.mem_of_getElem? (i := 333) (by decide +kernel)⟩
theorem lw_p18 : lw_okq (⟨"FlightDesk$Plan", "put", "(ILFlightDesk$Command;)V"⟩, 5) := ⟨⟨by decide +kernel, by decide +kernel⟩, List.mem_of_getElem? (i := 72) (by decide +kernel), List.mem_of_getElem? (i := 336) (by decide +kernel), List.mem_of_getElem? (i := 337) (by decide +kernel)⟩
theorem lw_p19 : lw_okq (⟨"FlightDesk", "steerPlan", "(I)V"⟩, 11) := ⟨⟨by decide +kernel, by decide +kernel⟩, List.mem_of_getElem? (i := 10) (by decide +kernel), List.mem_of_getElem? (i := 343) (by decide +kernel), List.mem_of_getElem? (i := 344) (by decide +kernel)⟩
theorem lw_p20 : lw_okq (⟨"FlightDesk$Plan", "clear", "()V"⟩, 5) := ⟨⟨by decide +kernel, by decide +kernel⟩, List.mem_of_getElem? (i := 72) (by decide +kernel), List.mem_of_getElem? (i := 347) (by decide +kernel), List.mem_of_getElem? (i := 348) (by decide +kernel)⟩
theorem lw_p21 : lw_okq (⟨"FlightDesk$Plan", "shift", "(I)V"⟩, 5) := ⟨⟨by decide +kernel, by decide +kernel⟩, List.mem_of_getElem? (i := 72) (by decide +kernel), List.mem_of_getElem? (i := 351) (by decide +kernel), List.mem_of_getElem? (i := 352) (by decide +kernel)⟩
theorem lw_p22 : lw_okq (⟨"FlightDesk", "startWatch", "(LFlightDesk$Command;)V"⟩, 11) := ⟨⟨by decide +kernel, by decide +kernel⟩, List.mem_of_getElem? (i := 10) (by decide +kernel), List.mem_of_getElem? (i := 355) (by decide +kernel), List.mem_of_getElem? (i := 356) (by decide +kernel)⟩
theorem lw_p23 : lw_okq (⟨"FlightDesk$Watch", "start", "(LFlightDesk$Command;)V"⟩, 7) := ⟨⟨by decide +kernel, by decide +kernel⟩, List.mem_of_getElem? (i := 133) (by decide +kernel), List.mem_of_getElem? (i := 359) (by decide +kernel), List.mem_of_getElem? (i := 360) (by decide +kernel)⟩
theorem lw_p24 : lw_okq (⟨"FlightDesk", "stopWatch", "(I)V"⟩, 11) := ⟨⟨by decide +kernel, by decide +kernel⟩, List.mem_of_getElem? (i := 10) (by decide +kernel), List.mem_of_getElem? (i := 365) (by decide +kernel), List.mem_of_getElem? (i := 366) (by decide +kernel)⟩
theorem lw_p25 : lw_okq (⟨"FlightDesk", "setAction", "(LFlightDesk$Command;)V"⟩, 11) := ⟨⟨by decide +kernel, by decide +kernel⟩, List.mem_of_getElem? (i := 10) (by decide +kernel), List.mem_of_getElem? (i := 369) (by decide +kernel), List.mem_of_getElem? (i := 370) (by decide +kernel)⟩
theorem lw_p26 : lw_okq (⟨"FlightDesk", "dropAction", "(I)V"⟩, 11) := ⟨⟨by decide +kernel, by decide +kernel⟩, List.mem_of_getElem? (i := 10) (by decide +kernel), List.mem_of_getElem? (i := 373) (by decide +kernel), List.mem_of_getElem? (i := 374) (by decide +kernel)⟩
theorem lw_p27 : lw_okq (⟨"FlightDesk$Command", "clear", "()V"⟩, 2) := ⟨⟨by decide +kernel, by decide +kernel⟩, List.mem_of_getElem? (i := 55) (by decide +kernel), List.mem_of_getElem? (i := 377) (by decide +kernel), List.mem_of_getElem? (i := 378) (by decide +kernel)⟩
theorem lw_p28 : lw_okq (⟨"FlightDesk", "setList", "(III)V"⟩, 11) := ⟨⟨by decide +kernel, by decide +kernel⟩, List.mem_of_getElem? (i := 10) (by decide +kernel), List.mem_of_getElem? (i := 381) (by decide +kernel), List.mem_of_getElem? (i := 382) (by decide +kernel)⟩
theorem lw_p29 : lw_okq (⟨"FlightDesk", "setMode", "(I)V"⟩, 11) := ⟨⟨by decide +kernel, by decide +kernel⟩, List.mem_of_getElem? (i := 10) (by decide +kernel), List.mem_of_getElem? (i := 385) (by decide +kernel), List.mem_of_getElem? (i := 386) (by decide +kernel)⟩
theorem lw_p30 : lw_okq (⟨"FlightDesk", "carryOutDue", "()V"⟩, 11) := ⟨⟨by decide +kernel, by decide +kernel⟩, List.mem_of_getElem? (i := 10) (by decide +kernel), List.mem_of_getElem? (i := 394) (by decide +kernel), List.mem_of_getElem? (i := 395) (by decide +kernel)⟩
theorem lw_p31 : lw_okq (⟨"FlightDesk$Plan", "takeOutDue", "(I)I"⟩, 5) := ⟨⟨by decide +kernel, by decide +kernel⟩, List.mem_of_getElem? (i := 72) (by decide +kernel), List.mem_of_getElem? (i := 398) (by decide +kernel), List.mem_of_getElem? (i := 399) (by decide +kernel)⟩
def lw_privs_2 : List (MethodName × Nat) := [(⟨"FlightDesk", "perform", "(LFlightDesk$Command;)V"⟩, 11), (⟨"FlightDesk", "setParameter", "(II)V"⟩, 11), (⟨"FlightDesk$Plan", "put", "(ILFlightDesk$Command;)V"⟩, 5), (⟨"FlightDesk", "steerPlan", "(I)V"⟩, 11), (⟨"FlightDesk$Plan", "clear", "()V"⟩, 5), (⟨"FlightDesk$Plan", "shift", "(I)V"⟩, 5), (⟨"FlightDesk", "startWatch", "(LFlightDesk$Command;)V"⟩, 11), (⟨"FlightDesk$Watch", "start", "(LFlightDesk$Command;)V"⟩, 7), (⟨"FlightDesk", "stopWatch", "(I)V"⟩, 11), (⟨"FlightDesk", "setAction", "(LFlightDesk$Command;)V"⟩, 11), (⟨"FlightDesk", "dropAction", "(I)V"⟩, 11), (⟨"FlightDesk$Command", "clear", "()V"⟩, 2), (⟨"FlightDesk", "setList", "(III)V"⟩, 11), (⟨"FlightDesk", "setMode", "(I)V"⟩, 11), (⟨"FlightDesk", "carryOutDue", "()V"⟩, 11), (⟨"FlightDesk$Plan", "takeOutDue", "(I)I"⟩, 5)]
theorem lw_r2 : ∀ q ∈ lw_privs_2, lw_okq q := List.forall_mem_cons.mpr ⟨lw_p16, List.forall_mem_cons.mpr ⟨lw_p17, List.forall_mem_cons.mpr ⟨lw_p18, List.forall_mem_cons.mpr ⟨lw_p19, List.forall_mem_cons.mpr ⟨lw_p20, List.forall_mem_cons.mpr ⟨lw_p21, List.forall_mem_cons.mpr ⟨lw_p22, List.forall_mem_cons.mpr ⟨lw_p23, List.forall_mem_cons.mpr ⟨lw_p24, List.forall_mem_cons.mpr ⟨lw_p25, List.forall_mem_cons.mpr ⟨lw_p26, List.forall_mem_cons.mpr ⟨lw_p27, List.forall_mem_cons.mpr ⟨lw_p28, List.forall_mem_cons.mpr ⟨lw_p29, List.forall_mem_cons.mpr ⟨lw_p30, List.forall_mem_cons.mpr ⟨lw_p31, fun _ h => absurd h List.not_mem_nil⟩⟩⟩⟩⟩⟩⟩⟩⟩⟩⟩⟩⟩⟩⟩⟩
theorem lw_p32 : lw_okq (⟨"FlightDesk", "look", "(LFlightDesk$Watch;)V"⟩, 11) := ⟨⟨by decide +kernel, by decide +kernel⟩, List.mem_of_getElem? (i := 10) (by decide +kernel), List.mem_of_getElem? (i := 402) (by decide +kernel), List.mem_of_getElem? (i := 403) (by decide +kernel)⟩
theorem lw_p33 : lw_okq (⟨"FlightDesk$Watch", "strikesOut", "(I)Z"⟩, 7) := ⟨⟨by decide +kernel, by decide +kernel⟩, List.mem_of_getElem? (i := 133) (by decide +kernel), List.mem_of_getElem? (i := 410) (by decide +kernel), List.mem_of_getElem? (i := 411) (by decide +kernel)⟩
theorem lw_p34 : lw_okq (⟨"FlightDesk$Command", "isEmpty", "()Z"⟩, 2) := ⟨⟨by decide +kernel, by decide +kernel⟩, List.mem_of_getElem? (i := 55) (by decide +kernel), List.mem_of_getElem? (i := 414) (by decide +kernel), List.mem_of_getElem? (i := 415) (by decide +kernel)⟩
theorem lw_p35 : lw_okq (⟨"FlightDesk$HouseList", "isDue", "(I)Z"⟩, 2) := ⟨⟨by decide +kernel, by decide +kernel⟩, List.mem_of_getElem? (i := 166) (by decide +kernel), List.mem_of_getElem? (i := 418) (by decide +kernel), List.mem_of_getElem? (i := 419) (by decide +kernel)⟩
theorem lw_p36 : lw_okq (⟨"FlightDesk", "sumOf", "(I)I"⟩, 11) := ⟨⟨by decide +kernel, by decide +kernel⟩, List.mem_of_getElem? (i := 10) (by decide +kernel), List.mem_of_getElem? (i := 422) (by decide +kernel), List.mem_of_getElem? (i := 423) (by decide +kernel)⟩
theorem lw_p37 : lw_okq (⟨"FlightDesk$Store", "isEmpty", "()Z"⟩, 7) := ⟨⟨by decide +kernel, by decide +kernel⟩, List.mem_of_getElem? (i := 102) (by decide +kernel), List.mem_of_getElem? (i := 430) (by decide +kernel), List.mem_of_getElem? (i := 431) (by decide +kernel)⟩
theorem lw_p38 : lw_okq (⟨"FlightDesk$Store", "oldestKind", "()I"⟩, 7) := ⟨⟨by decide +kernel, by decide +kernel⟩, List.mem_of_getElem? (i := 102) (by decide +kernel), List.mem_of_getElem? (i := 434) (by decide +kernel), List.mem_of_getElem? (i := 435) (by decide +kernel)⟩
theorem lw_p39 : lw_okq (⟨"FlightDesk$Store", "oldestClock", "()I"⟩, 7) := ⟨⟨by decide +kernel, by decide +kernel⟩, List.mem_of_getElem? (i := 102) (by decide +kernel), List.mem_of_getElem? (i := 438) (by decide +kernel), List.mem_of_getElem? (i := 439) (by decide +kernel)⟩
theorem lw_p40 : lw_okq (⟨"FlightDesk$Store", "oldestFirst", "()I"⟩, 7) := ⟨⟨by decide +kernel, by decide +kernel⟩, List.mem_of_getElem? (i := 102) (by decide +kernel), List.mem_of_getElem? (i := 442) (by decide +kernel), List.mem_of_getElem? (i := 443) (by decide +kernel)⟩
theorem lw_p41 : lw_okq (⟨"FlightDesk$Store", "oldestSecond", "()I"⟩, 7) := ⟨⟨by decide +kernel, by decide +kernel⟩, List.mem_of_getElem? (i := 102) (by decide +kernel), List.mem_of_getElem? (i := 446) (by decide +kernel), List.mem_of_getElem? (i := 447) (by decide +kernel)⟩
theorem lw_p42 : lw_okq (⟨"FlightDesk$Plan", "has", "(I)Z"⟩, 5) := ⟨⟨by decide +kernel, by decide +kernel⟩, List.mem_of_getElem? (i := 72) (by decide +kernel), List.mem_of_getElem? (i := 464) (by decide +kernel), List.mem_of_getElem? (i := 465) (by decide +kernel)⟩
theorem lw_p43 : lw_okq (⟨"FlightDeskModel", "checked", "()Z"⟩, 32) := ⟨⟨by decide +kernel, by decide +kernel⟩, List.mem_of_getElem? (i := 484) (by decide +kernel), List.mem_of_getElem? (i := 592) (by decide +kernel), List.mem_of_getElem? (i := 593) (by decide +kernel)⟩
theorem lw_p44 : lw_okq (⟨"FlightDeskModel", "broken", "()I"⟩, 32) := ⟨⟨by decide +kernel, by decide +kernel⟩, List.mem_of_getElem? (i := 484) (by decide +kernel), List.mem_of_getElem? (i := 596) (by decide +kernel), List.mem_of_getElem? (i := 597) (by decide +kernel)⟩
theorem lw_p45 : lw_okq (⟨"FlightDeskModel", "outOfRange", "(I)Z"⟩, 32) := ⟨⟨by decide +kernel, by decide +kernel⟩, List.mem_of_getElem? (i := 484) (by decide +kernel), List.mem_of_getElem? (i := 603) (by decide +kernel), List.mem_of_getElem? (i := 604) (by decide +kernel)⟩
theorem lw_p46 : lw_okq (⟨"FlightDeskModel", "carry", "(I)Z"⟩, 32) := ⟨⟨by decide +kernel, by decide +kernel⟩, List.mem_of_getElem? (i := 484) (by decide +kernel), List.mem_of_getElem? (i := 610) (by decide +kernel), List.mem_of_getElem? (i := 611) (by decide +kernel)⟩
theorem lw_p47 : lw_okq (⟨"FlightDeskModel", "refusal", "()I"⟩, 32) := ⟨⟨by decide +kernel, by decide +kernel⟩, List.mem_of_getElem? (i := 484) (by decide +kernel), List.mem_of_getElem? (i := 614) (by decide +kernel), List.mem_of_getElem? (i := 615) (by decide +kernel)⟩
def lw_privs_3 : List (MethodName × Nat) := [(⟨"FlightDesk", "look", "(LFlightDesk$Watch;)V"⟩, 11), (⟨"FlightDesk$Watch", "strikesOut", "(I)Z"⟩, 7), (⟨"FlightDesk$Command", "isEmpty", "()Z"⟩, 2), (⟨"FlightDesk$HouseList", "isDue", "(I)Z"⟩, 2), (⟨"FlightDesk", "sumOf", "(I)I"⟩, 11), (⟨"FlightDesk$Store", "isEmpty", "()Z"⟩, 7), (⟨"FlightDesk$Store", "oldestKind", "()I"⟩, 7), (⟨"FlightDesk$Store", "oldestClock", "()I"⟩, 7), (⟨"FlightDesk$Store", "oldestFirst", "()I"⟩, 7), (⟨"FlightDesk$Store", "oldestSecond", "()I"⟩, 7), (⟨"FlightDesk$Plan", "has", "(I)Z"⟩, 5), (⟨"FlightDeskModel", "checked", "()Z"⟩, 32), (⟨"FlightDeskModel", "broken", "()I"⟩, 32), (⟨"FlightDeskModel", "outOfRange", "(I)Z"⟩, 32), (⟨"FlightDeskModel", "carry", "(I)Z"⟩, 32), (⟨"FlightDeskModel", "refusal", "()I"⟩, 32)]
theorem lw_r3 : ∀ q ∈ lw_privs_3, lw_okq q := List.forall_mem_cons.mpr ⟨lw_p32, List.forall_mem_cons.mpr ⟨lw_p33, List.forall_mem_cons.mpr ⟨lw_p34, List.forall_mem_cons.mpr ⟨lw_p35, List.forall_mem_cons.mpr ⟨lw_p36, List.forall_mem_cons.mpr ⟨lw_p37, List.forall_mem_cons.mpr ⟨lw_p38, List.forall_mem_cons.mpr ⟨lw_p39, List.forall_mem_cons.mpr ⟨lw_p40, List.forall_mem_cons.mpr ⟨lw_p41, List.forall_mem_cons.mpr ⟨lw_p42, List.forall_mem_cons.mpr ⟨lw_p43, List.forall_mem_cons.mpr ⟨lw_p44, List.forall_mem_cons.mpr ⟨lw_p45, List.forall_mem_cons.mpr ⟨lw_p46, List.forall_mem_cons.mpr ⟨lw_p47, fun _ h => absurd h List.not_mem_nil⟩⟩⟩⟩⟩⟩⟩⟩⟩⟩⟩⟩⟩⟩⟩⟩
theorem lw_p48 : lw_okq (⟨"FlightDeskModel", "entries", "()I"⟩, 32) := ⟨⟨by decide +kernel, by decide +kernel⟩, List.mem_of_getElem? (i := 484) (by decide +kernel), List.mem_of_getElem? (i := 618) (by decide +kernel), List.mem_of_getElem? (i := 619) (by decide +kernel)⟩
theorem lw_p49 : lw_okq (⟨"FlightDeskModel", "badShift", "(I)Z"⟩, 32) := ⟨⟨by decide +kernel, by decide +kernel⟩, List.mem_of_getElem? (i := 484) (by decide +kernel), List.mem_of_getElem? (i := 622) (by decide +kernel), List.mem_of_getElem? (i := 623) (by decide +kernel)⟩
theorem lw_p50 : lw_okq (⟨"FlightDeskModel", "add", "(III)V"⟩, 32) := ⟨⟨by decide +kernel, by decide +kernel⟩, List.mem_of_getElem? (i := 484) (by decide +kernel), List.mem_of_getElem? (i := 627) (by decide +kernel), List.mem_of_getElem? (i := 628) (by decide +kernel)⟩
theorem lw_p51 : lw_okq (⟨"FlightDeskModel", "shiftStore", "()V"⟩, 32) := ⟨⟨by decide +kernel, by decide +kernel⟩, List.mem_of_getElem? (i := 484) (by decide +kernel), List.mem_of_getElem? (i := 631) (by decide +kernel), List.mem_of_getElem? (i := 632) (by decide +kernel)⟩
theorem lw_p52 : lw_okq (⟨"FlightDeskModel", "work", "(I)V"⟩, 32) := ⟨⟨by decide +kernel, by decide +kernel⟩, List.mem_of_getElem? (i := 484) (by decide +kernel), List.mem_of_getElem? (i := 635) (by decide +kernel), List.mem_of_getElem? (i := 636) (by decide +kernel)⟩
theorem lw_p53 : lw_okq (⟨"FlightDeskModel", "plan", "()V"⟩, 32) := ⟨⟨by decide +kernel, by decide +kernel⟩, List.mem_of_getElem? (i := 484) (by decide +kernel), List.mem_of_getElem? (i := 639) (by decide +kernel), List.mem_of_getElem? (i := 640) (by decide +kernel)⟩
theorem lw_p54 : lw_okq (⟨"FlightDeskModel", "run", "(I)V"⟩, 32) := ⟨⟨by decide +kernel, by decide +kernel⟩, List.mem_of_getElem? (i := 484) (by decide +kernel), List.mem_of_getElem? (i := 643) (by decide +kernel), List.mem_of_getElem? (i := 644) (by decide +kernel)⟩
theorem lw_p55 : lw_okq (⟨"FlightDeskModel", "setWatch", "(I)V"⟩, 32) := ⟨⟨by decide +kernel, by decide +kernel⟩, List.mem_of_getElem? (i := 484) (by decide +kernel), List.mem_of_getElem? (i := 647) (by decide +kernel), List.mem_of_getElem? (i := 648) (by decide +kernel)⟩
theorem lw_p56 : lw_okq (⟨"FlightDeskModel", "setAction", "(I)V"⟩, 32) := ⟨⟨by decide +kernel, by decide +kernel⟩, List.mem_of_getElem? (i := 484) (by decide +kernel), List.mem_of_getElem? (i := 651) (by decide +kernel), List.mem_of_getElem? (i := 652) (by decide +kernel)⟩
theorem lw_p57 : lw_okq (⟨"FlightDeskModel", "runPlan", "()V"⟩, 32) := ⟨⟨by decide +kernel, by decide +kernel⟩, List.mem_of_getElem? (i := 484) (by decide +kernel), List.mem_of_getElem? (i := 660) (by decide +kernel), List.mem_of_getElem? (i := 661) (by decide +kernel)⟩
theorem lw_p58 : lw_okq (⟨"FlightDeskModel", "entry", "(ZI)I"⟩, 32) := ⟨⟨by decide +kernel, by decide +kernel⟩, List.mem_of_getElem? (i := 484) (by decide +kernel), List.mem_of_getElem? (i := 664) (by decide +kernel), List.mem_of_getElem? (i := 665) (by decide +kernel)⟩
theorem lw_p59 : lw_okq (⟨"FlightDeskModel", "before", "(II)Z"⟩, 32) := ⟨⟨by decide +kernel, by decide +kernel⟩, List.mem_of_getElem? (i := 484) (by decide +kernel), List.mem_of_getElem? (i := 668) (by decide +kernel), List.mem_of_getElem? (i := 669) (by decide +kernel)⟩
theorem lw_p60 : lw_okq (⟨"FlightDeskModel", "look", "(I)V"⟩, 32) := ⟨⟨by decide +kernel, by decide +kernel⟩, List.mem_of_getElem? (i := 484) (by decide +kernel), List.mem_of_getElem? (i := 672) (by decide +kernel), List.mem_of_getElem? (i := 673) (by decide +kernel)⟩
def lw_privs_4 : List (MethodName × Nat) := [(⟨"FlightDeskModel", "entries", "()I"⟩, 32), (⟨"FlightDeskModel", "badShift", "(I)Z"⟩, 32), (⟨"FlightDeskModel", "add", "(III)V"⟩, 32), (⟨"FlightDeskModel", "shiftStore", "()V"⟩, 32), (⟨"FlightDeskModel", "work", "(I)V"⟩, 32), (⟨"FlightDeskModel", "plan", "()V"⟩, 32), (⟨"FlightDeskModel", "run", "(I)V"⟩, 32), (⟨"FlightDeskModel", "setWatch", "(I)V"⟩, 32), (⟨"FlightDeskModel", "setAction", "(I)V"⟩, 32), (⟨"FlightDeskModel", "runPlan", "()V"⟩, 32), (⟨"FlightDeskModel", "entry", "(ZI)I"⟩, 32), (⟨"FlightDeskModel", "before", "(II)Z"⟩, 32), (⟨"FlightDeskModel", "look", "(I)V"⟩, 32)]
theorem lw_r4 : ∀ q ∈ lw_privs_4, lw_okq q := List.forall_mem_cons.mpr ⟨lw_p48, List.forall_mem_cons.mpr ⟨lw_p49, List.forall_mem_cons.mpr ⟨lw_p50, List.forall_mem_cons.mpr ⟨lw_p51, List.forall_mem_cons.mpr ⟨lw_p52, List.forall_mem_cons.mpr ⟨lw_p53, List.forall_mem_cons.mpr ⟨lw_p54, List.forall_mem_cons.mpr ⟨lw_p55, List.forall_mem_cons.mpr ⟨lw_p56, List.forall_mem_cons.mpr ⟨lw_p57, List.forall_mem_cons.mpr ⟨lw_p58, List.forall_mem_cons.mpr ⟨lw_p59, List.forall_mem_cons.mpr ⟨lw_p60, fun _ h => absurd h List.not_mem_nil⟩⟩⟩⟩⟩⟩⟩⟩⟩⟩⟩⟩⟩
def lw_privs : List (MethodName × Nat) := lw_privs_1 ++ (lw_privs_2 ++ (lw_privs_3 ++ (lw_privs_4)))
def lw_tbl : List Cond := k2_sels lw_privs ++ tables_1
theorem lw_privs_ok : ∀ q ∈ lw_privs, lw_okq q := by
  show ∀ q ∈ lw_privs_1 ++ (lw_privs_2 ++ (lw_privs_3 ++ (lw_privs_4))), lw_okq q
  exact List.forall_mem_append.mpr ⟨lw_r1, List.forall_mem_append.mpr ⟨lw_r2, List.forall_mem_append.mpr ⟨lw_r3, lw_r4⟩⟩⟩
end
section
def TX0 : u_T := fun k => match k with
  | 0 => ("FlightDesk$Command", "parts", "[I", true)
  | _ => ("FlightDesk$Command", "size", "I", false)
def tyX0 : Nat → FieldType := fun k => match k with
  | 0 => .array .int
  | _ => .int
def TX1 : u_T := fun k => match k with
  | 0 => ("FlightDesk$HouseList", "every", "I", false)
  | _ => ("FlightDesk$HouseList", "mask", "I", false)
def tyX1 : Nat → FieldType := fun k => match k with
  | 0 => .int
  | _ => .int
def TX2 : u_T := fun k => match k with
  | 0 => ("FlightDesk$Plan", "times", "[I", true)
  | 1 => ("FlightDesk$Plan", "commands", "[LFlightDesk$Command;", true)
  | 2 => ("FlightDesk$Plan", "dueCommands", "[LFlightDesk$Command;", true)
  | 3 => ("FlightDesk$Plan", "size", "I", false)
  | _ => ("FlightDesk$Plan", "runs", "Z", false)
def tyX2 : Nat → FieldType := fun k => match k with
  | 0 => .array .int
  | 1 => .array (.object "FlightDesk$Command")
  | 2 => .array (.object "FlightDesk$Command")
  | 3 => .int
  | _ => .boolean
def TX3 : u_T := fun k => match k with
  | 0 => ("FlightDesk$Receiver", "content", "[I", true)
  | 1 => ("FlightDesk$Receiver", "stage", "I", false)
  | 2 => ("FlightDesk$Receiver", "length", "I", false)
  | 3 => ("FlightDesk$Receiver", "filled", "I", false)
  | 4 => ("FlightDesk$Receiver", "check", "I", false)
  | 5 => ("FlightDesk$Receiver", "taken", "I", false)
  | 6 => ("FlightDesk$Receiver", "dropped", "I", false)
  | _ => ("FlightDesk$Receiver", "skipped", "I", false)
def tyX3 : Nat → FieldType := fun k => match k with
  | 0 => .array .int
  | 1 => .int
  | 2 => .int
  | 3 => .int
  | 4 => .int
  | 5 => .int
  | 6 => .int
  | _ => .int
def TX4 : u_T := fun k => match k with
  | 0 => ("FlightDesk$Store", "kinds", "[I", true)
  | 1 => ("FlightDesk$Store", "clocks", "[I", true)
  | 2 => ("FlightDesk$Store", "firsts", "[I", true)
  | 3 => ("FlightDesk$Store", "seconds", "[I", true)
  | 4 => ("FlightDesk$Store", "oldest", "I", false)
  | 5 => ("FlightDesk$Store", "size", "I", false)
  | _ => ("FlightDesk$Store", "lost", "I", false)
def tyX4 : Nat → FieldType := fun k => match k with
  | 0 => .array .int
  | 1 => .array .int
  | 2 => .array .int
  | 3 => .array .int
  | 4 => .int
  | 5 => .int
  | _ => .int
def TX5 : u_T := fun k => match k with
  | 0 => ("FlightDesk$Watch", "on", "Z", false)
  | 1 => ("FlightDesk$Watch", "watched", "I", false)
  | 2 => ("FlightDesk$Watch", "low", "I", false)
  | 3 => ("FlightDesk$Watch", "high", "I", false)
  | 4 => ("FlightDesk$Watch", "needed", "I", false)
  | 5 => ("FlightDesk$Watch", "event", "I", false)
  | _ => ("FlightDesk$Watch", "strikes", "I", false)
def tyX5 : Nat → FieldType := fun k => match k with
  | 0 => .boolean
  | 1 => .int
  | 2 => .int
  | 3 => .int
  | 4 => .int
  | 5 => .int
  | _ => .int
def TX6 : u_T := fun k => match k with
  | 0 => ("FlightDesk", "receiver", "LFlightDesk$Receiver;", true)
  | 1 => ("FlightDesk", "incoming", "LFlightDesk$Command;", true)
  | 2 => ("FlightDesk", "plan", "LFlightDesk$Plan;", true)
  | 3 => ("FlightDesk", "store", "LFlightDesk$Store;", true)
  | 4 => ("FlightDesk", "parameters", "[I", true)
  | 5 => ("FlightDesk", "watches", "[LFlightDesk$Watch;", true)
  | 6 => ("FlightDesk", "actions", "[LFlightDesk$Command;", true)
  | 7 => ("FlightDesk", "lists", "[LFlightDesk$HouseList;", true)
  | 8 => ("FlightDesk", "clock", "I", false)
  | 9 => ("FlightDesk", "safe", "Z", false)
  | _ => ("FlightDesk", "commandsDone", "I", false)
def tyX6 : Nat → FieldType := fun k => match k with
  | 0 => .object "FlightDesk$Receiver"
  | 1 => .object "FlightDesk$Command"
  | 2 => .object "FlightDesk$Plan"
  | 3 => .object "FlightDesk$Store"
  | 4 => .array .int
  | 5 => .array (.object "FlightDesk$Watch")
  | 6 => .array (.object "FlightDesk$Command")
  | 7 => .array (.object "FlightDesk$HouseList")
  | 8 => .int
  | 9 => .boolean
  | _ => .int
def TX7 : u_T := fun k => match k with
  | 0 => ("FlightDeskModel", "frame", "[I", true)
  | 1 => ("FlightDeskModel", "got", "I", false)
  | 2 => ("FlightDeskModel", "w", "[I", true)
  | 3 => ("FlightDeskModel", "length", "I", false)
  | 4 => ("FlightDeskModel", "pBytes", "[I", true)
  | 5 => ("FlightDeskModel", "pLength", "[I", true)
  | 6 => ("FlightDeskModel", "pTime", "[I", true)
  | 7 => ("FlightDeskModel", "pOrder", "[I", true)
  | 8 => ("FlightDeskModel", "came", "I", false)
  | 9 => ("FlightDeskModel", "due", "[Z", true)
  | 10 => ("FlightDeskModel", "aBytes", "[I", true)
  | 11 => ("FlightDeskModel", "aLength", "[I", true)
  | 12 => ("FlightDeskModel", "on", "[Z", true)
  | 13 => ("FlightDeskModel", "wp", "[I", true)
  | 14 => ("FlightDeskModel", "low", "[I", true)
  | 15 => ("FlightDeskModel", "high", "[I", true)
  | 16 => ("FlightDeskModel", "wn", "[I", true)
  | 17 => ("FlightDeskModel", "we", "[I", true)
  | 18 => ("FlightDeskModel", "counted", "[I", true)
  | 19 => ("FlightDeskModel", "every", "[I", true)
  | 20 => ("FlightDeskModel", "mask", "[I", true)
  | 21 => ("FlightDeskModel", "parameters", "[I", true)
  | 22 => ("FlightDeskModel", "store", "[I", true)
  | 23 => ("FlightDeskModel", "stored", "I", false)
  | 24 => ("FlightDeskModel", "clock", "I", false)
  | 25 => ("FlightDeskModel", "safe", "Z", false)
  | 26 => ("FlightDeskModel", "rests", "Z", false)
  | 27 => ("FlightDeskModel", "lost", "I", false)
  | 28 => ("FlightDeskModel", "taken", "I", false)
  | 29 => ("FlightDeskModel", "dropped", "I", false)
  | 30 => ("FlightDeskModel", "skipped", "I", false)
  | _ => ("FlightDeskModel", "done", "I", false)
def tyX7 : Nat → FieldType := fun k => match k with
  | 0 => .array .int
  | 1 => .int
  | 2 => .array .int
  | 3 => .int
  | 4 => .array .int
  | 5 => .array .int
  | 6 => .array .int
  | 7 => .array .int
  | 8 => .int
  | 9 => .array .boolean
  | 10 => .array .int
  | 11 => .array .int
  | 12 => .array .boolean
  | 13 => .array .int
  | 14 => .array .int
  | 15 => .array .int
  | 16 => .array .int
  | 17 => .array .int
  | 18 => .array .int
  | 19 => .array .int
  | 20 => .array .int
  | 21 => .array .int
  | 22 => .array .int
  | 23 => .int
  | 24 => .int
  | 25 => .boolean
  | 26 => .boolean
  | 27 => .int
  | 28 => .int
  | 29 => .int
  | 30 => .int
  | _ => .int
def f_cl : List vw_C := [("FlightDesk$Command", TX0, 2), ("FlightDesk$HouseList", TX1, 2), ("FlightDesk$Plan", TX2, 5), ("FlightDesk$Receiver", TX3, 8), ("FlightDesk$Store", TX4, 7), ("FlightDesk$Watch", TX5, 7), ("FlightDesk", TX6, 11), ("FlightDeskModel", TX7, 32)]
/-- which fields are references -/
def f_fk (ci j : Nat) : Bool := ([[true, false], [false, false], [true, true, true, false, false], [true, false, false, false, false, false, false, false], [true, true, true, true, false, false, false], [false, false, false, false, false, false, false], [true, true, true, true, true, true, true, true, false, false, false], [true, false, true, false, true, true, true, true, false, true, true, true, true, true, true, true, true, true, true, true, true, true, true, false, false, false, false, false, false, false, false, false]].getD ci []).getD j false
/-- the shape of every cell: an array (0 ints, 1 booleans, 2 commands, 3 watches, 4 lists; its length) or an object (its class) -/
def f_shp (k : Nat) : (Nat × Nat) ⊕ Nat := [.inr 6, .inr 3, .inl (0, 12), .inr 0, .inl (0, 11), .inr 2, .inl (0, 6), .inl (2, 6), .inl (2, 6), .inr 0, .inl (0, 11), .inr 0, .inl (0, 11), .inr 0, .inl (0, 11), .inr 0, .inl (0, 11), .inr 0, .inl (0, 11), .inr 0, .inl (0, 11), .inr 0, .inl (0, 11), .inr 0, .inl (0, 11), .inr 0, .inl (0, 11), .inr 0, .inl (0, 11), .inr 0, .inl (0, 11), .inr 0, .inl (0, 11), .inr 4, .inl (0, 10), .inl (0, 10), .inl (0, 10), .inl (0, 10), .inl (0, 8), .inl (3, 4), .inr 5, .inr 5, .inr 5, .inr 5, .inl (2, 4), .inr 0, .inl (0, 11), .inr 0, .inl (0, 11), .inr 0, .inl (0, 11), .inr 0, .inl (0, 11), .inl (4, 2), .inr 1, .inr 1, .inr 7, .inl (0, 16), .inl (0, 14), .inl (0, 72), .inl (0, 6), .inl (0, 6), .inl (0, 6), .inl (1, 6), .inl (0, 48), .inl (0, 4), .inl (1, 4), .inl (0, 4), .inl (0, 4), .inl (0, 4), .inl (0, 4), .inl (0, 4), .inl (0, 4), .inl (0, 2), .inl (0, 2), .inl (0, 8), .inl (0, 40)].getD k (.inl (0, 0))
/-- the references that stay -/
def f_pc (k j : Nat) : Nat := ([[2, 4, 6, 34, 39, 40, 45, 54], [3], [], [5], [], [7, 8, 9], [], [], [], [11], [], [13], [], [15], [], [17], [], [19], [], [21], [], [23], [], [25], [], [27], [], [29], [], [31], [], [33], [], [35, 36, 37, 38], [], [], [], [], [], [41, 42, 43, 44], [], [], [], [], [46, 48, 50, 52], [47], [], [49], [], [51], [], [53], [], [55, 56], [], [], [58, 0, 59, 0, 60, 61, 62, 63, 0, 64, 65, 66, 67, 68, 69, 70, 71, 72, 73, 74, 75, 76, 77, 0, 0, 0, 0, 0, 0, 0, 0, 0], [], [], [], [], [], [], [], [], [], [], [], [], [], [], [], [], [], [], [], []].getD k []).getD j 0
def f_tys (ta : Nat → ClassId) : List (ClassId × FieldType) := [(ta 0, .int), (ta 1, .boolean), (ta 2, .object "FlightDesk$Command"), (ta 3, .object "FlightDesk$Watch"), (ta 4, .object "FlightDesk$HouseList")]
def f_ao : List String := ["FlightDesk$Command", "FlightDesk$Watch", "FlightDesk$HouseList"]
def f_zc : String := "FlightDesk"
def f_zn : String := "ARGUMENTS_WANTED"
def f_zl : Nat := 12
def f_zt (j : Nat) : Int32 := nI ([0, 0, 2, 2, 1, 1, 6, 1, 1, 1, 3, 1].getD j 0)
abbrev m_Cm_clear : MethodName × ByteArray × Nat × Option FieldType := (⟨"FlightDesk$Command", "clear", "()V"⟩, prog_2_method_3_code, 1, none)
abbrev m_Cm_init : MethodName × ByteArray × Nat × Option FieldType := (⟨"FlightDesk$Command", "<init>", "()V"⟩, prog_2_method_1_code, 1, none)
abbrev m_Cm_isEmpty : MethodName × ByteArray × Nat × Option FieldType := (⟨"FlightDesk$Command", "isEmpty", "()Z"⟩, prog_2_method_4_code, 1, some .boolean)
abbrev m_Cm_load : MethodName × ByteArray × Nat × Option FieldType := (⟨"FlightDesk$Command", "load", "([III)V"⟩, prog_2_method_2_code, 5, none)
abbrev m_Cm_part : MethodName × ByteArray × Nat × Option FieldType := (⟨"FlightDesk$Command", "part", "(I)I"⟩, prog_2_method_5_code, 2, some .int)
abbrev m_Cm_service : MethodName × ByteArray × Nat × Option FieldType := (⟨"FlightDesk$Command", "service", "()I"⟩, prog_2_method_6_code, 1, some .int)
abbrev m_D_action : MethodName × ByteArray × Nat × Option FieldType := (⟨"FlightDesk", "action", "(I)I"⟩, prog_1_method_11_code, 2, some .int)
abbrev m_D_argumentsInRange : MethodName × ByteArray × Nat × Option FieldType := (⟨"FlightDesk", "argumentsInRange", "(LFlightDesk$Command;I)Z"⟩, prog_1_method_24_code, 3, some .boolean)
abbrev m_D_brokenCode : MethodName × ByteArray × Nat × Option FieldType := (⟨"FlightDesk", "brokenCode", "(LFlightDesk$Command;)I"⟩, prog_1_method_22_code, 4, some .int)
abbrev m_D_brokenCodeWithoutInside : MethodName × ByteArray × Nat × Option FieldType := (⟨"FlightDesk", "brokenCodeWithoutInside", "(LFlightDesk$Command;I)I"⟩, prog_1_method_23_code, 6, some .int)
abbrev m_D_carryOut : MethodName × ByteArray × Nat × Option FieldType := (⟨"FlightDesk", "carryOut", "(LFlightDesk$Command;I)Z"⟩, prog_1_method_26_code, 5, some .boolean)
abbrev m_D_carryOutDue : MethodName × ByteArray × Nat × Option FieldType := (⟨"FlightDesk", "carryOutDue", "()V"⟩, prog_1_method_39_code, 3, none)
abbrev m_D_count : MethodName × ByteArray × Nat × Option FieldType := (⟨"FlightDesk", "count", "(I)I"⟩, prog_1_method_12_code, 2, some .int)
abbrev m_D_dropAction : MethodName × ByteArray × Nat × Option FieldType := (⟨"FlightDesk", "dropAction", "(I)V"⟩, prog_1_method_36_code, 2, none)
abbrev m_D_holdsCommand : MethodName × ByteArray × Nat × Option FieldType := (⟨"FlightDesk", "holdsCommand", "(I)Z"⟩, prog_1_method_18_code, 1, some .boolean)
abbrev m_D_init : MethodName × ByteArray × Nat × Option FieldType := (⟨"FlightDesk", "<init>", "()V"⟩, prog_1_method_1_code, 2, none)
abbrev m_D_insideOf : MethodName × ByteArray × Nat × Option FieldType := (⟨"FlightDesk", "insideOf", "(I)I"⟩, prog_1_method_19_code, 1, some .int)
abbrev m_D_isAllowedWhenSafe : MethodName × ByteArray × Nat × Option FieldType := (⟨"FlightDesk", "isAllowedWhenSafe", "(I)Z"⟩, prog_1_method_28_code, 1, some .boolean)
abbrev m_D_isEvent : MethodName × ByteArray × Nat × Option FieldType := (⟨"FlightDesk", "isEvent", "(I)Z"⟩, prog_1_method_15_code, 1, some .boolean)
abbrev m_D_isList : MethodName × ByteArray × Nat × Option FieldType := (⟨"FlightDesk", "isList", "(I)Z"⟩, prog_1_method_16_code, 1, some .boolean)
abbrev m_D_isParameter : MethodName × ByteArray × Nat × Option FieldType := (⟨"FlightDesk", "isParameter", "(I)Z"⟩, prog_1_method_13_code, 1, some .boolean)
abbrev m_D_isWatch : MethodName × ByteArray × Nat × Option FieldType := (⟨"FlightDesk", "isWatch", "(I)Z"⟩, prog_1_method_14_code, 1, some .boolean)
abbrev m_D_look : MethodName × ByteArray × Nat × Option FieldType := (⟨"FlightDesk", "look", "(LFlightDesk$Watch;)V"⟩, prog_1_method_40_code, 4, none)
abbrev m_D_mayStandInside : MethodName × ByteArray × Nat × Option FieldType := (⟨"FlightDesk", "mayStandInside", "(II)Z"⟩, prog_1_method_20_code, 2, some .boolean)
abbrev m_D_obeyFrame : MethodName × ByteArray × Nat × Option FieldType := (⟨"FlightDesk", "obeyFrame", "()Z"⟩, prog_1_method_21_code, 3, some .boolean)
abbrev m_D_parameter : MethodName × ByteArray × Nat × Option FieldType := (⟨"FlightDesk", "parameter", "(I)I"⟩, prog_1_method_6_code, 2, some .int)
abbrev m_D_parametersNotZero : MethodName × ByteArray × Nat × Option FieldType := (⟨"FlightDesk", "parametersNotZero", "()I"⟩, prog_1_method_41_code, 3, some .int)
abbrev m_D_perform : MethodName × ByteArray × Nat × Option FieldType := (⟨"FlightDesk", "perform", "(LFlightDesk$Command;)V"⟩, prog_1_method_30_code, 2, none)
abbrev m_D_planned : MethodName × ByteArray × Nat × Option FieldType := (⟨"FlightDesk", "planned", "(I)I"⟩, prog_1_method_8_code, 2, some .int)
abbrev m_D_plannedService : MethodName × ByteArray × Nat × Option FieldType := (⟨"FlightDesk", "plannedService", "(I)I"⟩, prog_1_method_9_code, 2, some .int)
abbrev m_D_refusalCode : MethodName × ByteArray × Nat × Option FieldType := (⟨"FlightDesk", "refusalCode", "(LFlightDesk$Command;)I"⟩, prog_1_method_27_code, 3, some .int)
abbrev m_D_report : MethodName × ByteArray × Nat × Option FieldType := (⟨"FlightDesk", "report", "(I)I"⟩, prog_1_method_4_code, 2, some .int)
abbrev m_D_sense : MethodName × ByteArray × Nat × Option FieldType := (⟨"FlightDesk", "sense", "(II)I"⟩, prog_1_method_7_code, 4, some .int)
abbrev m_D_setAction : MethodName × ByteArray × Nat × Option FieldType := (⟨"FlightDesk", "setAction", "(LFlightDesk$Command;)V"⟩, prog_1_method_35_code, 3, none)
abbrev m_D_setList : MethodName × ByteArray × Nat × Option FieldType := (⟨"FlightDesk", "setList", "(III)V"⟩, prog_1_method_37_code, 4, none)
abbrev m_D_setMode : MethodName × ByteArray × Nat × Option FieldType := (⟨"FlightDesk", "setMode", "(I)V"⟩, prog_1_method_38_code, 2, none)
abbrev m_D_setParameter : MethodName × ByteArray × Nat × Option FieldType := (⟨"FlightDesk", "setParameter", "(II)V"⟩, prog_1_method_31_code, 3, none)
abbrev m_D_signed : MethodName × ByteArray × Nat × Option FieldType := (⟨"FlightDesk", "signed", "(I)I"⟩, prog_1_method_17_code, 1, some .int)
abbrev m_D_startWatch : MethodName × ByteArray × Nat × Option FieldType := (⟨"FlightDesk", "startWatch", "(LFlightDesk$Command;)V"⟩, prog_1_method_33_code, 3, none)
abbrev m_D_steerPlan : MethodName × ByteArray × Nat × Option FieldType := (⟨"FlightDesk", "steerPlan", "(I)V"⟩, prog_1_method_32_code, 2, none)
abbrev m_D_stopWatch : MethodName × ByteArray × Nat × Option FieldType := (⟨"FlightDesk", "stopWatch", "(I)V"⟩, prog_1_method_34_code, 2, none)
abbrev m_D_sumOf : MethodName × ByteArray × Nat × Option FieldType := (⟨"FlightDesk", "sumOf", "(I)I"⟩, prog_1_method_42_code, 4, some .int)
abbrev m_D_take : MethodName × ByteArray × Nat × Option FieldType := (⟨"FlightDesk", "take", "()I"⟩, prog_1_method_5_code, 1, some .int)
abbrev m_D_tick : MethodName × ByteArray × Nat × Option FieldType := (⟨"FlightDesk", "tick", "()I"⟩, prog_1_method_3_code, 2, some .int)
abbrev m_D_timeOf : MethodName × ByteArray × Nat × Option FieldType := (⟨"FlightDesk", "timeOf", "(LFlightDesk$Command;)I"⟩, prog_1_method_29_code, 1, some .int)
abbrev m_D_uplink : MethodName × ByteArray × Nat × Option FieldType := (⟨"FlightDesk", "uplink", "(I)I"⟩, prog_1_method_2_code, 3, some .int)
abbrev m_D_watch : MethodName × ByteArray × Nat × Option FieldType := (⟨"FlightDesk", "watch", "(I)I"⟩, prog_1_method_10_code, 2, some .int)
abbrev m_D_watchInRange : MethodName × ByteArray × Nat × Option FieldType := (⟨"FlightDesk", "watchInRange", "(LFlightDesk$Command;I)Z"⟩, prog_1_method_25_code, 5, some .boolean)
abbrev m_Hl_init : MethodName × ByteArray × Nat × Option FieldType := (⟨"FlightDesk$HouseList", "<init>", "()V"⟩, prog_3_method_1_code, 1, none)
abbrev m_Hl_isDue : MethodName × ByteArray × Nat × Option FieldType := (⟨"FlightDesk$HouseList", "isDue", "(I)Z"⟩, prog_3_method_2_code, 2, some .boolean)
abbrev m_M_action : MethodName × ByteArray × Nat × Option FieldType := (⟨"FlightDeskModel", "action", "(I)I"⟩, prog_9_method_31_code, 2, some .int)
abbrev m_M_add : MethodName × ByteArray × Nat × Option FieldType := (⟨"FlightDeskModel", "add", "(III)V"⟩, prog_9_method_3_code, 4, none)
abbrev m_M_badShift : MethodName × ByteArray × Nat × Option FieldType := (⟨"FlightDeskModel", "badShift", "(I)Z"⟩, prog_9_method_9_code, 3, some .boolean)
abbrev m_M_before : MethodName × ByteArray × Nat × Option FieldType := (⟨"FlightDeskModel", "before", "(II)Z"⟩, prog_9_method_19_code, 3, some .boolean)
abbrev m_M_broken : MethodName × ByteArray × Nat × Option FieldType := (⟨"FlightDeskModel", "broken", "()I"⟩, prog_9_method_7_code, 6, some .int)
abbrev m_M_carry : MethodName × ByteArray × Nat × Option FieldType := (⟨"FlightDeskModel", "carry", "(I)Z"⟩, prog_9_method_16_code, 4, some .boolean)
abbrev m_M_checked : MethodName × ByteArray × Nat × Option FieldType := (⟨"FlightDeskModel", "checked", "()Z"⟩, prog_9_method_17_code, 4, some .boolean)
abbrev m_M_count : MethodName × ByteArray × Nat × Option FieldType := (⟨"FlightDeskModel", "count", "(I)I"⟩, prog_9_method_32_code, 2, some .int)
abbrev m_M_entries : MethodName × ByteArray × Nat × Option FieldType := (⟨"FlightDeskModel", "entries", "()I"⟩, prog_9_method_8_code, 3, some .int)
abbrev m_M_entry : MethodName × ByteArray × Nat × Option FieldType := (⟨"FlightDeskModel", "entry", "(ZI)I"⟩, prog_9_method_20_code, 6, some .int)
abbrev m_M_init : MethodName × ByteArray × Nat × Option FieldType := (⟨"FlightDeskModel", "<init>", "()V"⟩, prog_9_method_1_code, 1, none)
abbrev m_M_look : MethodName × ByteArray × Nat × Option FieldType := (⟨"FlightDeskModel", "look", "(I)V"⟩, prog_9_method_22_code, 5, none)
abbrev m_M_outOfRange : MethodName × ByteArray × Nat × Option FieldType := (⟨"FlightDeskModel", "outOfRange", "(I)Z"⟩, prog_9_method_6_code, 4, some .boolean)
abbrev m_M_parameter : MethodName × ByteArray × Nat × Option FieldType := (⟨"FlightDeskModel", "parameter", "(I)I"⟩, prog_9_method_26_code, 2, some .int)
abbrev m_M_plan : MethodName × ByteArray × Nat × Option FieldType := (⟨"FlightDeskModel", "plan", "()V"⟩, prog_9_method_11_code, 3, none)
abbrev m_M_planned : MethodName × ByteArray × Nat × Option FieldType := (⟨"FlightDeskModel", "planned", "(I)I"⟩, prog_9_method_28_code, 3, some .int)
abbrev m_M_plannedService : MethodName × ByteArray × Nat × Option FieldType := (⟨"FlightDeskModel", "plannedService", "(I)I"⟩, prog_9_method_29_code, 3, some .int)
abbrev m_M_refusal : MethodName × ByteArray × Nat × Option FieldType := (⟨"FlightDeskModel", "refusal", "()I"⟩, prog_9_method_10_code, 2, some .int)
abbrev m_M_report : MethodName × ByteArray × Nat × Option FieldType := (⟨"FlightDeskModel", "report", "(I)I"⟩, prog_9_method_24_code, 2, some .int)
abbrev m_M_run : MethodName × ByteArray × Nat × Option FieldType := (⟨"FlightDeskModel", "run", "(I)V"⟩, prog_9_method_12_code, 3, none)
abbrev m_M_runPlan : MethodName × ByteArray × Nat × Option FieldType := (⟨"FlightDeskModel", "runPlan", "()V"⟩, prog_9_method_21_code, 3, none)
abbrev m_M_sense : MethodName × ByteArray × Nat × Option FieldType := (⟨"FlightDeskModel", "sense", "(II)I"⟩, prog_9_method_27_code, 4, some .int)
abbrev m_M_setAction : MethodName × ByteArray × Nat × Option FieldType := (⟨"FlightDeskModel", "setAction", "(I)V"⟩, prog_9_method_14_code, 3, none)
abbrev m_M_setWatch : MethodName × ByteArray × Nat × Option FieldType := (⟨"FlightDeskModel", "setWatch", "(I)V"⟩, prog_9_method_13_code, 2, none)
abbrev m_M_shiftStore : MethodName × ByteArray × Nat × Option FieldType := (⟨"FlightDeskModel", "shiftStore", "()V"⟩, prog_9_method_4_code, 2, none)
abbrev m_M_signed : MethodName × ByteArray × Nat × Option FieldType := (⟨"FlightDeskModel", "signed", "(I)I"⟩, prog_9_method_2_code, 1, some .int)
abbrev m_M_take : MethodName × ByteArray × Nat × Option FieldType := (⟨"FlightDeskModel", "take", "()I"⟩, prog_9_method_25_code, 1, some .int)
abbrev m_M_tick : MethodName × ByteArray × Nat × Option FieldType := (⟨"FlightDeskModel", "tick", "()I"⟩, prog_9_method_23_code, 4, some .int)
abbrev m_M_uplink : MethodName × ByteArray × Nat × Option FieldType := (⟨"FlightDeskModel", "uplink", "(I)I"⟩, prog_9_method_18_code, 3, some .int)
abbrev m_M_wanted : MethodName × ByteArray × Nat × Option FieldType := (⟨"FlightDeskModel", "wanted", "(I)I"⟩, prog_9_method_5_code, 1, some .int)
abbrev m_M_watch : MethodName × ByteArray × Nat × Option FieldType := (⟨"FlightDeskModel", "watch", "(I)I"⟩, prog_9_method_30_code, 2, some .int)
abbrev m_M_work : MethodName × ByteArray × Nat × Option FieldType := (⟨"FlightDeskModel", "work", "(I)V"⟩, prog_9_method_15_code, 4, none)
abbrev m_Pl_canShift : MethodName × ByteArray × Nat × Option FieldType := (⟨"FlightDesk$Plan", "canShift", "(II)Z"⟩, prog_4_method_6_code, 5, some .boolean)
abbrev m_Pl_clear : MethodName × ByteArray × Nat × Option FieldType := (⟨"FlightDesk$Plan", "clear", "()V"⟩, prog_4_method_4_code, 1, none)
abbrev m_Pl_has : MethodName × ByteArray × Nat × Option FieldType := (⟨"FlightDesk$Plan", "has", "(I)Z"⟩, prog_4_method_2_code, 2, some .boolean)
abbrev m_Pl_init : MethodName × ByteArray × Nat × Option FieldType := (⟨"FlightDesk$Plan", "<init>", "()V"⟩, prog_4_method_1_code, 2, none)
abbrev m_Pl_isFull : MethodName × ByteArray × Nat × Option FieldType := (⟨"FlightDesk$Plan", "isFull", "()Z"⟩, prog_4_method_3_code, 1, some .boolean)
abbrev m_Pl_put : MethodName × ByteArray × Nat × Option FieldType := (⟨"FlightDesk$Plan", "put", "(ILFlightDesk$Command;)V"⟩, prog_4_method_5_code, 5, none)
abbrev m_Pl_shift : MethodName × ByteArray × Nat × Option FieldType := (⟨"FlightDesk$Plan", "shift", "(I)V"⟩, prog_4_method_7_code, 3, none)
abbrev m_Pl_takeOutDue : MethodName × ByteArray × Nat × Option FieldType := (⟨"FlightDesk$Plan", "takeOutDue", "(I)I"⟩, prog_4_method_8_code, 5, some .int)
abbrev m_Rc_accept : MethodName × ByteArray × Nat × Option FieldType := (⟨"FlightDesk$Receiver", "accept", "(I)I"⟩, prog_5_method_2_code, 2, some .int)
abbrev m_Rc_acceptBetweenFrames : MethodName × ByteArray × Nat × Option FieldType := (⟨"FlightDesk$Receiver", "acceptBetweenFrames", "(I)I"⟩, prog_5_method_3_code, 2, some .int)
abbrev m_Rc_acceptCheck : MethodName × ByteArray × Nat × Option FieldType := (⟨"FlightDesk$Receiver", "acceptCheck", "(I)I"⟩, prog_5_method_6_code, 2, some .int)
abbrev m_Rc_acceptContent : MethodName × ByteArray × Nat × Option FieldType := (⟨"FlightDesk$Receiver", "acceptContent", "(I)I"⟩, prog_5_method_5_code, 2, some .int)
abbrev m_Rc_acceptLength : MethodName × ByteArray × Nat × Option FieldType := (⟨"FlightDesk$Receiver", "acceptLength", "(I)I"⟩, prog_5_method_4_code, 2, some .int)
abbrev m_Rc_init : MethodName × ByteArray × Nat × Option FieldType := (⟨"FlightDesk$Receiver", "<init>", "()V"⟩, prog_5_method_1_code, 1, none)
abbrev m_St_add : MethodName × ByteArray × Nat × Option FieldType := (⟨"FlightDesk$Store", "add", "(IIII)V"⟩, prog_6_method_3_code, 6, none)
abbrev m_St_init : MethodName × ByteArray × Nat × Option FieldType := (⟨"FlightDesk$Store", "<init>", "()V"⟩, prog_6_method_1_code, 1, none)
abbrev m_St_isEmpty : MethodName × ByteArray × Nat × Option FieldType := (⟨"FlightDesk$Store", "isEmpty", "()Z"⟩, prog_6_method_2_code, 1, some .boolean)
abbrev m_St_oldestClock : MethodName × ByteArray × Nat × Option FieldType := (⟨"FlightDesk$Store", "oldestClock", "()I"⟩, prog_6_method_6_code, 1, some .int)
abbrev m_St_oldestFirst : MethodName × ByteArray × Nat × Option FieldType := (⟨"FlightDesk$Store", "oldestFirst", "()I"⟩, prog_6_method_7_code, 1, some .int)
abbrev m_St_oldestKind : MethodName × ByteArray × Nat × Option FieldType := (⟨"FlightDesk$Store", "oldestKind", "()I"⟩, prog_6_method_5_code, 1, some .int)
abbrev m_St_oldestSecond : MethodName × ByteArray × Nat × Option FieldType := (⟨"FlightDesk$Store", "oldestSecond", "()I"⟩, prog_6_method_8_code, 1, some .int)
abbrev m_St_removeOldest : MethodName × ByteArray × Nat × Option FieldType := (⟨"FlightDesk$Store", "removeOldest", "()V"⟩, prog_6_method_4_code, 1, none)
abbrev m_Wa_init : MethodName × ByteArray × Nat × Option FieldType := (⟨"FlightDesk$Watch", "<init>", "()V"⟩, prog_7_method_1_code, 1, none)
abbrev m_Wa_start : MethodName × ByteArray × Nat × Option FieldType := (⟨"FlightDesk$Watch", "start", "(LFlightDesk$Command;)V"⟩, prog_7_method_2_code, 2, none)
abbrev m_Wa_strikesOut : MethodName × ByteArray × Nat × Option FieldType := (⟨"FlightDesk$Watch", "strikesOut", "(I)Z"⟩, prog_7_method_3_code, 2, some .boolean)
abbrev m_L_law : MethodName × ByteArray × Nat × Option FieldType := (⟨"FlightDeskLaw", "law", "([I)Z"⟩, code, 4, some .boolean)
end
section
/-! MEMORY AS NUMBERS. All cells of the class and of the reference lie at b, b + 1 ..: cell k at b + k. I k j: the int in slot j of cell k; P k j: the reference there (0 null, q + 1 the cell q). A value on the stack or in a local: .inl (a reference so coded) or .inr (an int). -/
abbrev Fm : Type := Nat → Nat → Int32
abbrev Fr : Type := Nat → Nat → Nat
abbrev Fs : Type := (Nat ⊕ Nat) ⊕ Int32
/-- a reference: 0 null, q + 1 the cell q -/
abbrev rf (q : Nat) : Fs := .inl (.inl q)
/-- an address of the world outside -/
abbrev xf (a : Nat) : Fs := .inl (.inr a)
abbrev Fl : Type := List (Nat × Fs)
abbrev Fy : Type := MethodName × ByteArray × Nat × Option FieldType
def f_v (b : Nat) : Fs → Value
  | .inl (.inl 0) => .null
  | .inl (.inl (q + 1)) => .ref (b + q)
  | .inl (.inr a) => .ref a
  | .inr x => .int x
def f_lk : Fl → Nat → Option Fs
  | [], _ => none
  | (j, v) :: r, i => if i = j then some v else f_lk r i
def f_st : Fl → Nat → Fs → Fl
  | [], i, v => [(i, v)]
  | (j, w) :: r, i, v => if i = j then (j, v) :: r.filter (fun q => !(q.1 == i)) else (j, w) :: f_st r i v
def f_en : Nat → List Fs → Fl
  | _, [] => []
  | i, v :: r => (i, v) :: f_en (i + 1) r
def f_u {α : Type} (f : Nat → Nat → α) (k j : Nat) (x : α) : Nat → Nat → α := fun a c => if a = k ∧ c = j then x else f a c
theorem f_u_ne {α : Type} {f : Nat → Nat → α} {k j a : Nat} {x : α} (h : a ≠ k) : f_u f k j x a = f a := by
  funext c
  simp [f_u, h]
theorem f_u_s {α : Type} {f : Nat → Nat → α} {k j : Nat} {x : α} : f_u f k j x k j = x := by simp [f_u]
theorem f_u_n {α : Type} {f : Nat → Nat → α} {k j a c : Nat} {x : α} (h : ¬ (a = k ∧ c = j)) : f_u f k j x a c = f a c := by simp only [f_u, if_neg h]
theorem f_v_cat (b : Nat) (x : Fs) : (f_v b x).category = 1 := by
  cases x with
  | inl q =>
    cases q with
    | inl q => cases q <;> rfl
    | inr a => rfl
  | inr x => rfl
def f_lv (b : Nat) (lv : Fl) : List (Nat × Value) := lv.map (fun q => (q.1, f_v b q.2))
theorem f_lk_mem : ∀ (lv : Fl) (i : Nat) (v : Fs), f_lk lv i = some v → (i, v) ∈ lv
  | [], i, v, h => by simp [f_lk] at h
  | (j, w) :: r, i, v, h => by
    unfold f_lk at h
    split at h
    · rename_i e
      cases h
      subst e
      exact List.mem_cons_self
    · exact List.mem_cons_of_mem _ (f_lk_mem r i v h)
theorem f_lk_at {ls : Array Slot} {nL b : Nat} {lv : Fl} {i : Nat} {v : Fs} (h : lv_has ls nL (f_lv b lv)) (hk : f_lk lv i = some v) : ls[i]? = some (.val (f_v b v)) :=
  h.2.2 (i, f_v b v) (List.mem_map.mpr ⟨(i, v), f_lk_mem lv i v hk, rfl⟩)
theorem f_st_mem : ∀ (lv : Fl) (i : Nat) (v : Fs) (q : Nat × Fs), q ∈ f_st lv i v → q = (i, v) ∨ (q ∈ lv ∧ q.1 ≠ i)
  | [], i, v, q, h => by
    rcases List.mem_singleton.mp h with rfl
    exact Or.inl rfl
  | (j, w) :: r, i, v, q, h => by
    unfold f_st at h
    split at h
    · rename_i e
      subst e
      rcases List.mem_cons.mp h with h | h
      · exact Or.inl h
      · obtain ⟨h1, h2⟩ := List.mem_filter.mp h
        exact Or.inr ⟨List.mem_cons_of_mem _ h1, by simpa using h2⟩
    · rename_i e
      rcases List.mem_cons.mp h with h | h
      · subst h
        exact Or.inr ⟨List.mem_cons_self, fun z => e z.symm⟩
      · rcases f_st_mem r i v q h with h | ⟨h1, h2⟩
        · exact Or.inl h
        · exact Or.inr ⟨List.mem_cons_of_mem _ h1, h2⟩
theorem f_st_has {ls : Array Slot} {nL b i : Nat} {lv : Fl} {v : Fs} (h : lv_has ls nL ((i, f_v b v) :: (f_lv b lv).filter (fun q => !(q.1 == i) && !(q.1 + 1 == i && q.2.category == 2)))) : lv_has ls nL (f_lv b (f_st lv i v)) := by
  refine ⟨h.1, h.2.1, fun q hq => h.2.2 q ?_⟩
  obtain ⟨q0, h0, rfl⟩ := List.mem_map.mp hq
  rcases f_st_mem lv i v q0 h0 with rfl | ⟨h1, h2⟩
  · exact List.mem_cons_self
  · refine List.mem_cons_of_mem _ (List.mem_filter.mpr ⟨List.mem_map.mpr ⟨q0, h1, rfl⟩, ?_⟩)
    have e : (f_v b q0.2).category = 1 := f_v_cat b q0.2
    simp [e, h2]
theorem f_en_args (b : Nat) : ∀ (as : List Fs) (i : Nat), f_lv b (f_en i as) = lv_args i (as.map (f_v b))
  | [], i => rfl
  | v :: r, i => by
    have e : (f_v b v).category = 1 := f_v_cat b v
    have ih := f_en_args b r (i + 1)
    simp only [f_lv] at ih ⊢
    simp [f_en, lv_args, e, ih]
theorem f_cat_sum (b : Nat) : ∀ (st : List Fs), ((st.map (f_v b)).map fun v => v.category).sum = st.length
  | [] => rfl
  | v :: r => by
    have e : (f_v b v).category = 1 := f_v_cat b v
    have ih := f_cat_sum b r
    simp only [List.map_cons, List.sum_cons, List.length_cons, e, ih]
    omega
/-! THE WORLD: cell k by its shape: an array (its kind t, its length), or an object (its class's number) -/
def f_ov (b ci : Nat) (I : Fm) (P : Fr) (k : Nat) : Nat → Value := fun j => if f_fk ci j = true then f_v b (rf (P k j)) else .int (I k j)
def f_av (b t : Nat) (I : Fm) (P : Fr) (k : Nat) : Nat → Value := fun j => if t < 2 then .int (I k j) else f_v b (rf (P k j))
def f_at (D : va_G) (ta : Nat → ClassId) (b : Nat) (I : Fm) (P : Fr) (k : Nat) (H : Heap) : Prop := match f_shp k with
  | .inl (t, n) => H[b + k]? = some (arrV (ta t) n (f_av b t I P k))
  | .inr ci => ∃ r : vw_C, f_cl[ci]? = some r ∧ t_OB (b + k) (D.1 ci) r.2.2 (D.2 ci) H (f_ov b ci I P k)
def f_W (D : va_G) (ta : Nat → ClassId) (b n : Nat) (I : Fm) (P : Fr) (H : Heap) : Prop := H.size = b + n ∧ ∀ k, k < n → f_at D ta b I P k H
section FW
variable {D : va_G} {ta : Nat → ClassId} {b n k t N ci : Nat} {I I' : Fm} {P P' : Fr} {H H1 : Heap}
theorem f_at_arr (h : f_at D ta b I P k H) (hk : f_shp k = .inl (t, N)) : H[b + k]? = some (arrV (ta t) N (f_av b t I P k)) := by
  unfold f_at at h
  rw [hk] at h
  exact h
theorem f_at_obj (h : f_at D ta b I P k H) (hk : f_shp k = .inr ci) : ∃ r : vw_C, f_cl[ci]? = some r ∧ t_OB (b + k) (D.1 ci) r.2.2 (D.2 ci) H (f_ov b ci I P k) := by
  unfold f_at at h
  rw [hk] at h
  exact h
theorem f_arr_at (hk : f_shp k = .inl (t, N)) (h : H[b + k]? = some (arrV (ta t) N (f_av b t I P k))) : f_at D ta b I P k H := by
  unfold f_at
  rw [hk]
  exact h
theorem f_obj_at {r : vw_C} (hk : f_shp k = .inr ci) (hr : f_cl[ci]? = some r) (h : t_OB (b + k) (D.1 ci) r.2.2 (D.2 ci) H (f_ov b ci I P k)) : f_at D ta b I P k H := by
  unfold f_at
  rw [hk]
  exact ⟨r, hr, h⟩
theorem f_at_kept (h : f_at D ta b I P k H) (hq : H1[b + k]? = H[b + k]?) (hI : I' k = I k) (hP : P' k = P k) : f_at D ta b I' P' k H1 := by
  cases hs : f_shp k with
  | inl x =>
    obtain ⟨t, N⟩ := x
    refine f_arr_at hs ?_
    rw [hq, f_at_arr h hs]
    have e : f_av b t I' P' k = f_av b t I P k := by
      unfold f_av
      rw [hI, hP]
    rw [e]
  | inr ci =>
    obtain ⟨r, h1, h2⟩ := f_at_obj h hs
    refine f_obj_at hs h1 ?_
    have e : f_ov b ci I' P' k = f_ov b ci I P k := by
      unfold f_ov
      rw [hI, hP]
    rw [e]
    exact h2.kept hq
theorem f_W_set (h : f_W D ta b n I P H) (z : H1.size = H.size) (oq : ∀ q, q ≠ b + k → H1[q]? = H[q]?) (hI : ∀ a, a ≠ k → I' a = I a) (hP : ∀ a, a ≠ k → P' a = P a) (hat : f_at D ta b I' P' k H1) : f_W D ta b n I' P' H1 := by
  refine ⟨by rw [z]; exact h.1, fun a ha => ?_⟩
  by_cases e : a = k
  · subst e
    exact hat
  · exact f_at_kept (h.2 a ha) (oq _ (by omega)) (hI a e) (hP a e)
theorem f_W_push (h : f_W D ta b n I P H) (z : H1.size = b + n + 1) (oq : ∀ q, q < b + n → H1[q]? = H[q]?) (hat : f_at D ta b I P n H1) : f_W D ta b (n + 1) I P H1 := by
  refine ⟨by omega, fun a ha => ?_⟩
  by_cases e : a = n
  · subst e
    exact hat
  · exact f_at_kept (h.2 a (by omega)) (oq _ (by omega)) rfl rfl
end FW
/-! WORDS: those of the tables that every method may rest on; links of nest mates -/
def f_good (w : Cond) : Bool := (w.onTables && w.keeps) || (match w with | .arrayClass _ => true | _ => false)
def f_isN (w : Cond) : Bool := match w with | .fieldLinkNest _ _ _ _ _ _ => true | .methodLinkNest _ _ _ _ => true | _ => false
def f_T : List Cond := lw_tbl.filter f_good
def f_N : List Cond := lw_tbl.filter f_isN
theorem f_inT {w : Cond} (h : w ∈ lw_tbl) (hg : f_good w = true) : w ∈ f_T := List.mem_filter.mpr ⟨h, hg⟩
theorem f_inN {w : Cond} (h : w ∈ lw_tbl) (hg : f_isN w = true) : w ∈ f_N := List.mem_filter.mpr ⟨h, hg⟩
theorem f_T_good {w : Cond} (h : w ∈ f_T) : w ∈ f_T ∧ ((w.onTables && w.keeps) = true ∨ ∃ ty, w = .arrayClass ty) := by
  refine ⟨h, ?_⟩
  have hg := (List.mem_filter.mp h).2
  unfold f_good at hg
  rcases Bool.or_eq_true_iff.mp hg with h1 | h1
  · exact Or.inl h1
  · cases w <;> first | exact Or.inr ⟨_, rfl⟩ | cases h1
theorem f_N_on {w : Cond} (h : w ∈ f_N) : w.onTables = true := by
  have hg := (List.mem_filter.mp h).2
  cases w <;> first | rfl | cases hg
theorem f_N_warm {w : Cond} (h : w ∈ f_N) {s U : State} (hW : s.WarmedH U.vm) (hZ : va_Nw w s) : va_Nw w U := by
  have hg := (List.mem_filter.mp h).2
  cases w <;> first | exact va_Nw.warmF hW hZ | exact va_Nw.warmM hW hZ | cases hg
def f_ws (M : Fy) : List Cond := Cond.code M.1 M.2.1 M.2.2.1 M.2.2.2 :: f_T
/-- a method's link, as the tables have it: plain or of a nest mate -/
def f_LM (own : String) (idx : Nat) (y : MethodName) : Prop := Cond.methodLink own idx y ∈ f_T ∨ ∃ host, Cond.methodLinkNest own idx y host ∈ f_N
def f_LF (own : String) (idx : Nat) (r n d : String) : Prop := Cond.fieldLink own idx r n d ∈ f_T ∨ ∃ host, Cond.fieldLinkNest own idx r n d host ∈ f_N
/-- a field: by the constant pool's number in own, slot j of class ci -/
def f_FD (own : String) (idx ci j : Nat) : Prop := ∃ r : vw_C, f_cl[ci]? = some r ∧ j < r.2.2 ∧ f_LF own idx (r.2.1 j).1 (r.2.1 j).2.1 (r.2.1 j).2.2.1 ∧ ∀ w ∈ u_ws r.1 r.2.1 r.2.2, w ∈ f_T
/-- what a method's words are -/
def f_MB (M : Fy) (n : Nat) : Prop := Cond.code M.1 M.2.1 M.2.2.1 M.2.2.2 ∈ f_T ∧ Cond.initialized M.1.cls ∈ f_T ∧ (M.1.cls ≠ "java/lang/invoke/MethodHandle" ∧ M.1.cls ≠ "java/lang/invoke/VarHandle" ∧ (parseMethodDescriptor M.1.desc).map (fun d => d.parameters.length) = some n) ∧ M.2.2.1 ≤ 21
def f_MV (M : Fy) (n : Nat) : Prop := f_MB M n ∧ Cond.instanceMethod M.1 ∈ f_T ∧ Cond.selects M.1.cls M.1 M.1 ∈ f_T
def f_MS (M : Fy) (n : Nat) : Prop := f_MB M n ∧ Cond.static M.1 ∈ f_T
def f_MI (M : Fy) (n : Nat) : Prop := f_MB M n ∧ M.1.name = "<init>" ∧ M.2.2.2 = none ∧ Cond.instanceMethod M.1 ∈ f_T
/-! WHAT IS KNOWN of the tables at a state: classes, array classes, nest links, the static table -/
def f_Z (b : Nat) (U : State) (H : Heap) : Prop := ∃ t : Nat, va_Z f_zc f_zn "[I" (.ref t) (fun q => b ≤ q) U H ∧ va_T .int t f_zl (fun j => .int (f_zt j)) (fun q => b ≤ q) U H ∧ t < b
def f_K (D : va_G) (ta : Nat → ClassId) (b : Nat) (U : State) : Prop := va_K D f_cl (f_tys ta) U ∧ (∀ w ∈ f_N, va_Nw w U) ∧ (∀ C ∈ f_ao, va_AO C U) ∧ f_Z b U U.heap
theorem f_K_moved {D : va_G} {ta : Nat → ClassId} {b : Nat} {s U : State} (h : f_K D ta b s) (hW : s.WarmedH U.vm) (hs : b ≤ s.heap.size) (hq : ∀ q, q < b → U.heap[q]? = s.heap[q]?) : f_K D ta b U := by
  obtain ⟨h1, h2, h3, t, h4, h5, h6⟩ := h
  refine ⟨va_K.moved hW.alike h1, fun w hw => f_N_warm hw hW (h2 w hw), fun C hC => va_AO.moved hW.alike (h3 C hC), t, (va_Z.kept h4 (fun a _ ha => hq a (Nat.not_le.mp ha))).moved hW.alike, (va_T.kept h5 (fun a _ ha => hq a (Nat.not_le.mp ha))).moved hW.alike, h6⟩
/-! THE JUDGEMENT: the machine, at pc of the method of context G, with at least the locals lv, the stack st, and memory I, P over n cells, comes to Q -/
abbrev Fx : Type := Program × Launch × Env × Room × State × MethodId × Array Value × List Frame × Method × Code × va_G × (Nat → ClassId) × Nat × Nat
def Zv (G : Fx) (Q : State → Prop) (n cells slots pc : Nat) (lv : Fl) (st : List Fs) (I : Fm) (P : Fr) : Prop := match G with
  | (p, l, e, R, s, m, args, below, meth, c, D, ta, b, nL) => ∀ (H : Heap) (locs : List Loc) (ls : Array Slot), f_W D ta b n I P H → va_S (fun q => b ≤ q) s.heap H locs → lv_has ls nL (f_lv b lv) → W p l e R s m args below meth c H locs cells slots Q (F0 m pc ls (st.map (f_v b)))
def Fc (G : Fx) (M : Fy) (d mc ms : Nat) : Prop := match G with
  | (p, _, _, R, s, m, args, _, meth, c, D, ta, b, nL) => p.tables.exec = Jvm.exec ∧ c.code = M.2.1 ∧ c.maxLocals = nL ∧ s.vm.findClass M.1.cls = some m.cls ∧ (∀ w ∈ f_T, w.before args s = true) ∧ meth.locks = false ∧ meth.sig.returnType = M.2.2.2 ∧ meth.name = M.1.name ∧ f_K D ta b s ∧ b ≤ s.heap.size ∧ nL = M.2.2.1 ∧ d ≤ R.frames ∧ 40 * d ≤ R.locals ∧ mc ≤ R.cells ∧ ms ≤ R.slots
def f_Q (D : va_G) (ta : Nat → ClassId) (b n : Nat) (K : Option Fs → Fm → Fr → Prop) : Array Value → State → Outcome → State → Prop := fun _ st oc t => ∃ (v : Option Fs) (I : Fm) (P : Fr), oc = .returned (v.map (f_v b)) ∧ K v I P ∧ f_W D ta b n I P t.heap ∧ ∀ q, q < b → t.heap[q]? = st.heap[q]?
def f_R (G : Fx) (K : Option Fs → Fm → Fr → Prop) (n mc ms : Nat) : State → Prop := match G with
  | (_, _, _, _, s, _, args, below, _, _, D, ta, b, _) => MQ below (f_Q D ta b n K) args s mc ms (fun q => b ≤ q)
def f_rm (d mc ms : Nat) : Room := { frames := d, cells := mc, slots := ms, locals := 40 * d }
/-- A CALL of method M with arguments as, memory I, P over n cells: it returns, with K of the answer and the new memory, over n' cells (mc new ones, of ms slots) -/
def Fk (d : Nat) (M : Fy) (n n' mc ms : Nat) (as : List Fs) (I : Fm) (P : Fr) (K : Option Fs → Fm → Fr → Prop) : Prop :=
  ∀ (l : Launch) (D : va_G) (ta : Nat → ClassId) (b : Nat), Met l M.1 (f_ws M) (f_rm d mc ms) (va_Pc (as.map (f_v b)) (fun U => f_W D ta b n I P U.heap ∧ f_K D ta b U)) (f_Q D ta b n' K) mc ms (fun q => b ≤ q)
theorem Fk.intro {d : Nat} {M : Fy} {n n' mc ms : Nat} {as : List Fs} {I : Fm} {P : Fr} {K : Option Fs → Fm → Fr → Prop} (hy : Jvm.plainName M.1.cls = true) (hn : as.length ≤ M.2.2.1)
    (body : ∀ G : Fx, Fc G M d mc ms → Zv G (f_R G K n' mc ms) n 0 0 0 (f_en 0 as) [] I P) : Fk d M n n' mc ms as I P K := by
  intro l D ta b
  refine Met.ofW (cc := M.2.1) (maxL := M.2.2.1) (ret := M.2.2.2) hy rfl ?_
  intro p e s m args below meth c s₁ B hml hv
  obtain ⟨rfl, hW, hK⟩ := hv
  have hts := atoms_spec (ws := f_ws M) B.pre
  have hlen : (lg_sl (as.map (f_v b))).length ≤ M.2.2.1 := by
    have e : (lg_sl (as.map (f_v b))).length = as.length := by
      clear hn body hW hts B
      induction as with
      | nil => rfl
      | cons v r ih =>
        have e : (f_v b v).category = 1 := f_v_cat b v
        simp_all [lg_sl]
    omega
  have hl := lv_entry (as.map (f_v b)) (n := M.2.2.1) hlen
  rw [← f_en_args] at hl
  have h := body (p, l, e, f_rm d mc ms, s, m, (as.map (f_v b)).toArray, below, meth, c, D, ta, b, M.2.2.1) ⟨B.exec, B.bytes, hml, findClass_of_methodNamed B.named, fun w hw => hts w (List.mem_cons_of_mem _ hw), B.notSynchronized, B.returns, (name_of_methodNamed B.named B.method).1, hK, by rw [hW.1]; exact Nat.le_add_right _ _, rfl, Nat.le_refl _, Nat.le_refl _, Nat.le_refl _, Nat.le_refl _⟩ s.heap [] _ hW va_S.rf hl
  rw [lg_entry_eq]
  exact h
end
section
section FR
variable {G : Fx} {Q : State → Prop} {M : Fy} {d mc ms n cells slots pc : Nat} {lv : Fl} {st : List Fs} {I : Fm} {P : Fr}
theorem Zv.weak {lv' : Fl} (h : ∀ q ∈ lv', q ∈ lv) (k : Zv G Q n cells slots pc lv' st I P) : Zv G Q n cells slots pc lv st I P := by
  obtain ⟨p, l, e, R, s, m, args, below, meth, c, D, ta, b, nL⟩ := G
  intro H locs ls hW hS hl
  refine k H locs ls hW hS ⟨hl.1, hl.2.1, fun q hq => hl.2.2 q ?_⟩
  obtain ⟨q0, h0, rfl⟩ := List.mem_map.mp hq
  exact List.mem_map.mpr ⟨q0, h q0 h0, rfl⟩
theorem Zv.pcx {pc' : Nat} (h : pc = pc') (k : Zv G Q n cells slots pc' lv st I P) : Zv G Q n cells slots pc lv st I P := h ▸ k
theorem Zv.mem {I' : Fm} {P' : Fr} (h : I = I') (h2 : P = P') (k : Zv G Q n cells slots pc lv st I' P') : Zv G Q n cells slots pc lv st I P := h ▸ h2 ▸ k
theorem Zv.iconst {z : Int} {v : Int32} (hC : Fc G M d mc ms) (hdg : decode M.2.1 pc = .ok (.iconst z, 1)) (hv : Int32.ofInt z = v) (k : Zv G Q n cells slots (pc + 1) lv (.inr v :: st) I P) : Zv G Q n cells slots pc lv st I P := by
  obtain ⟨p, l, e, R, s, m, args, below, meth, c, D, ta, b, nL⟩ := G
  intro H locs ls hW hS hl
  exact lv_iconst hC.1 hC.2.1 hdg hv (k H locs ls hW hS hl)
theorem Zv.bipush {z : Int} {v : Int32} (hC : Fc G M d mc ms) (hdg : decode M.2.1 pc = .ok (.bipush z, 2)) (hv : (Int8.ofInt z).toInt32 = v) (k : Zv G Q n cells slots (pc + 2) lv (.inr v :: st) I P) : Zv G Q n cells slots pc lv st I P := by
  obtain ⟨p, l, e, R, s, m, args, below, meth, c, D, ta, b, nL⟩ := G
  intro H locs ls hW hS hl
  exact lv_bipush hC.1 hC.2.1 hdg hv (k H locs ls hW hS hl)
theorem Zv.sipush {z : Int} {v : Int32} (hC : Fc G M d mc ms) (hdg : decode M.2.1 pc = .ok (.sipush z, 3)) (hv : (Int16.ofInt z).toInt32 = v) (k : Zv G Q n cells slots (pc + 3) lv (.inr v :: st) I P) : Zv G Q n cells slots pc lv st I P := by
  obtain ⟨p, l, e, R, s, m, args, below, meth, c, D, ta, b, nL⟩ := G
  intro H locs ls hW hS hl
  exact lv_sipush hC.1 hC.2.1 hdg hv (k H locs ls hW hS hl)
theorem Zv.iload_n {i : Fin 4} {x : Int32} (hC : Fc G M d mc ms) (hdg : decode M.2.1 pc = .ok (.iload_n i, 1)) (h : f_lk lv i = some (.inr x)) (k : Zv G Q n cells slots (pc + 1) lv (.inr x :: st) I P) : Zv G Q n cells slots pc lv st I P := by
  obtain ⟨p, l, e, R, s, m, args, below, meth, c, D, ta, b, nL⟩ := G
  intro H locs ls hW hS hl
  exact lv_iload_n hC.1 hC.2.1 hdg rfl (f_lk_at hl h) (k H locs ls hW hS hl)
theorem Zv.iload {i : Nat} {x : Int32} (hC : Fc G M d mc ms) (hdg : decode M.2.1 pc = .ok (.iload i, 2)) (h : f_lk lv i = some (.inr x)) (k : Zv G Q n cells slots (pc + 2) lv (.inr x :: st) I P) : Zv G Q n cells slots pc lv st I P := by
  obtain ⟨p, l, e, R, s, m, args, below, meth, c, D, ta, b, nL⟩ := G
  intro H locs ls hW hS hl
  exact lv_iload hC.1 hC.2.1 hdg (f_lk_at hl h) (k H locs ls hW hS hl)
theorem Zv.aload_n {i : Fin 4} {x : Nat} (hC : Fc G M d mc ms) (hdg : decode M.2.1 pc = .ok (.aload_n i, 1)) (h : f_lk lv i = some (rf (x + 1))) (k : Zv G Q n cells slots (pc + 1) lv (rf (x + 1) :: st) I P) : Zv G Q n cells slots pc lv st I P := by
  obtain ⟨p, l, e, R, s, m, args, below, meth, c, D, ta, b, nL⟩ := G
  intro H locs ls hW hS hl
  exact lv_aload_n hC.1 hC.2.1 hdg rfl (f_lk_at hl h) (k H locs ls hW hS hl)
theorem Zv.aload {i x : Nat} (hC : Fc G M d mc ms) (hdg : decode M.2.1 pc = .ok (.aload i, 2)) (h : f_lk lv i = some (rf (x + 1))) (k : Zv G Q n cells slots (pc + 2) lv (rf (x + 1) :: st) I P) : Zv G Q n cells slots pc lv st I P := by
  obtain ⟨p, l, e, R, s, m, args, below, meth, c, D, ta, b, nL⟩ := G
  intro H locs ls hW hS hl
  exact lv_aload hC.1 hC.2.1 hdg (f_lk_at hl h) (k H locs ls hW hS hl)
theorem Zv.iadd {x y : Int32} (hC : Fc G M d mc ms) (hdg : decode M.2.1 pc = .ok (.iadd, 1)) (k : Zv G Q n cells slots (pc + 1) lv (.inr (x + y) :: st) I P) : Zv G Q n cells slots pc lv (.inr y :: .inr x :: st) I P := by
  obtain ⟨p, l, e, R, s, m, args, below, meth, c, D, ta, b, nL⟩ := G
  intro H locs ls hW hS hl
  exact lv_iadd hC.1 hC.2.1 hdg (k H locs ls hW hS hl)
theorem Zv.isub {x y : Int32} (hC : Fc G M d mc ms) (hdg : decode M.2.1 pc = .ok (.isub, 1)) (k : Zv G Q n cells slots (pc + 1) lv (.inr (x - y) :: st) I P) : Zv G Q n cells slots pc lv (.inr y :: .inr x :: st) I P := by
  obtain ⟨p, l, e, R, s, m, args, below, meth, c, D, ta, b, nL⟩ := G
  intro H locs ls hW hS hl
  exact lv_isub hC.1 hC.2.1 hdg (k H locs ls hW hS hl)
theorem Zv.imul {x y : Int32} (hC : Fc G M d mc ms) (hdg : decode M.2.1 pc = .ok (.imul, 1)) (k : Zv G Q n cells slots (pc + 1) lv (.inr (x * y) :: st) I P) : Zv G Q n cells slots pc lv (.inr y :: .inr x :: st) I P := by
  obtain ⟨p, l, e, R, s, m, args, below, meth, c, D, ta, b, nL⟩ := G
  intro H locs ls hW hS hl
  exact lv_imul hC.1 hC.2.1 hdg (k H locs ls hW hS hl)
theorem Zv.iand {x y : Int32} (hC : Fc G M d mc ms) (hdg : decode M.2.1 pc = .ok (.iand, 1)) (k : Zv G Q n cells slots (pc + 1) lv (.inr (x &&& y) :: st) I P) : Zv G Q n cells slots pc lv (.inr y :: .inr x :: st) I P := by
  obtain ⟨p, l, e, R, s, m, args, below, meth, c, D, ta, b, nL⟩ := G
  intro H locs ls hW hS hl
  exact lv_iand hC.1 hC.2.1 hdg (k H locs ls hW hS hl)
theorem Zv.ior {x y : Int32} (hC : Fc G M d mc ms) (hdg : decode M.2.1 pc = .ok (.ior, 1)) (k : Zv G Q n cells slots (pc + 1) lv (.inr (x ||| y) :: st) I P) : Zv G Q n cells slots pc lv (.inr y :: .inr x :: st) I P := by
  obtain ⟨p, l, e, R, s, m, args, below, meth, c, D, ta, b, nL⟩ := G
  intro H locs ls hW hS hl
  exact lv_ior hC.1 hC.2.1 hdg (k H locs ls hW hS hl)
theorem Zv.ixor {x y : Int32} (hC : Fc G M d mc ms) (hdg : decode M.2.1 pc = .ok (.ixor, 1)) (k : Zv G Q n cells slots (pc + 1) lv (.inr (x ^^^ y) :: st) I P) : Zv G Q n cells slots pc lv (.inr y :: .inr x :: st) I P := by
  obtain ⟨p, l, e, R, s, m, args, below, meth, c, D, ta, b, nL⟩ := G
  intro H locs ls hW hS hl
  exact lv_ixor hC.1 hC.2.1 hdg (k H locs ls hW hS hl)
theorem Zv.ishl {x y : Int32} (hC : Fc G M d mc ms) (hdg : decode M.2.1 pc = .ok (.ishl, 1)) (k : Zv G Q n cells slots (pc + 1) lv (.inr (x <<< (y &&& 31)) :: st) I P) : Zv G Q n cells slots pc lv (.inr y :: .inr x :: st) I P := by
  obtain ⟨p, l, e, R, s, m, args, below, meth, c, D, ta, b, nL⟩ := G
  intro H locs ls hW hS hl
  exact lv_ishl hC.1 hC.2.1 hdg (k H locs ls hW hS hl)
theorem Zv.ishr {x y : Int32} (hC : Fc G M d mc ms) (hdg : decode M.2.1 pc = .ok (.ishr, 1)) (k : Zv G Q n cells slots (pc + 1) lv (.inr (x >>> (y &&& 31)) :: st) I P) : Zv G Q n cells slots pc lv (.inr y :: .inr x :: st) I P := by
  obtain ⟨p, l, e, R, s, m, args, below, meth, c, D, ta, b, nL⟩ := G
  intro H locs ls hW hS hl
  exact lv_ishr hC.1 hC.2.1 hdg (k H locs ls hW hS hl)
theorem Zv.idiv {x y : Int32} (hC : Fc G M d mc ms) (hdg : decode M.2.1 pc = .ok (.idiv, 1)) (hne : ¬ y = 0) (k : Zv G Q n cells slots (pc + 1) lv (.inr (x / y) :: st) I P) : Zv G Q n cells slots pc lv (.inr y :: .inr x :: st) I P := by
  obtain ⟨p, l, e, R, s, m, args, below, meth, c, D, ta, b, nL⟩ := G
  intro H locs ls hW hS hl
  exact lv_idiv hC.1 hC.2.1 hdg hne (k H locs ls hW hS hl)
theorem Zv.irem {x y : Int32} (hC : Fc G M d mc ms) (hdg : decode M.2.1 pc = .ok (.irem, 1)) (hne : ¬ y = 0) (k : Zv G Q n cells slots (pc + 1) lv (.inr (x - x / y * y) :: st) I P) : Zv G Q n cells slots pc lv (.inr y :: .inr x :: st) I P := by
  obtain ⟨p, l, e, R, s, m, args, below, meth, c, D, ta, b, nL⟩ := G
  intro H locs ls hW hS hl
  exact lv_irem hC.1 hC.2.1 hdg hne (k H locs ls hW hS hl)
theorem Zv.ineg {x : Int32} (hC : Fc G M d mc ms) (hdg : decode M.2.1 pc = .ok (.ineg, 1)) (k : Zv G Q n cells slots (pc + 1) lv (.inr (-x) :: st) I P) : Zv G Q n cells slots pc lv (.inr x :: st) I P := by
  obtain ⟨p, l, e, R, s, m, args, below, meth, c, D, ta, b, nL⟩ := G
  intro H locs ls hW hS hl
  exact lv_ineg hC.1 hC.2.1 hdg (k H locs ls hW hS hl)
theorem Zv.dup {v : Fs} (hC : Fc G M d mc ms) (hdg : decode M.2.1 pc = .ok (.dup, 1)) (k : Zv G Q n cells slots (pc + 1) lv (v :: v :: st) I P) : Zv G Q n cells slots pc lv (v :: st) I P := by
  obtain ⟨p, l, e, R, s, m, args, below, meth, c, D, ta, b, nL⟩ := G
  intro H locs ls hW hS hl
  exact lv_dup hC.1 hC.2.1 hdg (f_v_cat b v) (k H locs ls hW hS hl)
theorem Zv.pop {v : Fs} (hC : Fc G M d mc ms) (hdg : decode M.2.1 pc = .ok (.pop, 1)) (k : Zv G Q n cells slots (pc + 1) lv st I P) : Zv G Q n cells slots pc lv (v :: st) I P := by
  obtain ⟨p, l, e, R, s, m, args, below, meth, c, D, ta, b, nL⟩ := G
  intro H locs ls hW hS hl
  exact lv_pop hC.1 hC.2.1 hdg (f_v_cat b v) (k H locs ls hW hS hl)
theorem Zv.dup_x1 {v w : Fs} (hC : Fc G M d mc ms) (hdg : decode M.2.1 pc = .ok (.dup_x1, 1)) (k : Zv G Q n cells slots (pc + 1) lv (v :: w :: v :: st) I P) : Zv G Q n cells slots pc lv (v :: w :: st) I P := by
  obtain ⟨p, l, e, R, s, m, args, below, meth, c, D, ta, b, nL⟩ := G
  intro H locs ls hW hS hl
  exact lv_dup_x1 hC.1 hC.2.1 hdg (f_v_cat b v) (f_v_cat b w) (k H locs ls hW hS hl)
theorem Zv.dup_x2 {v w u : Fs} (hC : Fc G M d mc ms) (hdg : decode M.2.1 pc = .ok (.dup_x2, 1)) (k : Zv G Q n cells slots (pc + 1) lv (v :: w :: u :: v :: st) I P) : Zv G Q n cells slots pc lv (v :: w :: u :: st) I P := by
  obtain ⟨p, l, e, R, s, m, args, below, meth, c, D, ta, b, nL⟩ := G
  intro H locs ls hW hS hl
  exact lv_dup_x2 hC.1 hC.2.1 hdg (f_v_cat b v) (f_v_cat b w) (f_v_cat b u) (k H locs ls hW hS hl)
theorem Zv.dup2 {v w : Fs} (hC : Fc G M d mc ms) (hdg : decode M.2.1 pc = .ok (.dup2, 1)) (k : Zv G Q n cells slots (pc + 1) lv (v :: w :: v :: w :: st) I P) : Zv G Q n cells slots pc lv (v :: w :: st) I P := by
  obtain ⟨p, l, e, R, s, m, args, below, meth, c, D, ta, b, nL⟩ := G
  intro H locs ls hW hS hl
  exact lv_dup2_11 hC.1 hC.2.1 hdg (f_v_cat b v) (f_v_cat b w) (k H locs ls hW hS hl)
theorem Zv.goto {off : Int} {tgt : Nat} (hC : Fc G M d mc ms) (hdg : decode M.2.1 pc = .ok (.goto off, 3)) (ht : (pc : Int) + off = (tgt : Int)) (k : Zv G Q n cells slots (tgt) lv st I P) : Zv G Q n cells slots pc lv st I P := by
  obtain ⟨p, l, e, R, s, m, args, below, meth, c, D, ta, b, nL⟩ := G
  intro H locs ls hW hS hl
  exact lv_goto hC.1 hC.2.1 hdg ht (k H locs ls hW hS hl)
theorem Zv.ldc {idx : Nat} {v : Int32} (hC : Fc G M d mc ms) (hdg : decode M.2.1 pc = .ok (.ldc idx, 2)) (hw : Cond.constant M.1.cls idx v ∈ f_T) (k : Zv G Q n cells slots (pc + 2) lv (.inr v :: st) I P) : Zv G Q n cells slots pc lv st I P := by
  obtain ⟨p, l, e, R, s, m, args, below, meth, c, D, ta, b, nL⟩ := G
  intro H locs ls hW hS hl
  exact lv_ldc hC.1 hC.2.1 hC.2.2.2.1 (hC.2.2.2.2.1 _ hw) hdg (k H locs ls hW hS hl)
theorem Zv.istore_n {i : Fin 4} {x : Int32} {lv' : Fl} (hC : Fc G M d mc ms) (hdg : decode M.2.1 pc = .ok (.istore_n i, 1)) (hi : (i : Nat) < M.2.2.1) (hv : f_st lv i (.inr x) = lv') (k : Zv G Q n cells slots (pc + 1) lv' st I P) : Zv G Q n cells slots pc lv (.inr x :: st) I P := by
  subst hv
  obtain ⟨p, l, e, R, s, m, args, below, meth, c, D, ta, b, nL⟩ := G
  intro H locs ls hW hS hl
  exact lv_istore_n hC.1 hC.2.1 hdg rfl hl (by rw [hC.2.2.2.2.2.2.2.2.2.2.1]; exact hi) rfl (fun ls' h' => k H locs ls' hW hS (f_st_has h'))
theorem Zv.istore {i : Nat} {x : Int32} {lv' : Fl} (hC : Fc G M d mc ms) (hdg : decode M.2.1 pc = .ok (.istore i, 2)) (hi : (i : Nat) < M.2.2.1) (hv : f_st lv i (.inr x) = lv') (k : Zv G Q n cells slots (pc + 2) lv' st I P) : Zv G Q n cells slots pc lv (.inr x :: st) I P := by
  subst hv
  obtain ⟨p, l, e, R, s, m, args, below, meth, c, D, ta, b, nL⟩ := G
  intro H locs ls hW hS hl
  exact lv_istore hC.1 hC.2.1 hdg hl (by rw [hC.2.2.2.2.2.2.2.2.2.2.1]; exact hi) rfl (fun ls' h' => k H locs ls' hW hS (f_st_has h'))
theorem Zv.astore_n {i : Fin 4} {x : Nat} {lv' : Fl} (hC : Fc G M d mc ms) (hdg : decode M.2.1 pc = .ok (.astore_n i, 1)) (hi : (i : Nat) < M.2.2.1) (hv : f_st lv i (rf (x + 1)) = lv') (k : Zv G Q n cells slots (pc + 1) lv' st I P) : Zv G Q n cells slots pc lv (rf (x + 1) :: st) I P := by
  subst hv
  obtain ⟨p, l, e, R, s, m, args, below, meth, c, D, ta, b, nL⟩ := G
  intro H locs ls hW hS hl
  exact lv_astore_n hC.1 hC.2.1 hdg rfl hl (by rw [hC.2.2.2.2.2.2.2.2.2.2.1]; exact hi) rfl (fun ls' h' => k H locs ls' hW hS (f_st_has h'))
theorem Zv.astore {i : Nat} {x : Nat} {lv' : Fl} (hC : Fc G M d mc ms) (hdg : decode M.2.1 pc = .ok (.astore i, 2)) (hi : (i : Nat) < M.2.2.1) (hv : f_st lv i (rf (x + 1)) = lv') (k : Zv G Q n cells slots (pc + 2) lv' st I P) : Zv G Q n cells slots pc lv (rf (x + 1) :: st) I P := by
  subst hv
  obtain ⟨p, l, e, R, s, m, args, below, meth, c, D, ta, b, nL⟩ := G
  intro H locs ls hW hS hl
  exact lv_astore hC.1 hC.2.1 hdg hl (by rw [hC.2.2.2.2.2.2.2.2.2.2.1]; exact hi) rfl (fun ls' h' => k H locs ls' hW hS (f_st_has h'))
theorem Zv.iinc {i : Nat} {z : Int} {x v : Int32} {lv' : Fl} (hC : Fc G M d mc ms) (hdg : decode M.2.1 pc = .ok (.iinc i z, 3)) (h : f_lk lv i = some (.inr x)) (hi : i < M.2.2.1) (hx : x + Int32.ofInt z = v) (hv : f_st lv i (.inr v) = lv') (k : Zv G Q n cells slots (pc + 3) lv' st I P) : Zv G Q n cells slots pc lv st I P := by
  subst hv
  obtain ⟨p, l, e, R, s, m, args, below, meth, c, D, ta, b, nL⟩ := G
  intro H locs ls hW hS hl
  obtain ⟨j, hj⟩ := List.getElem?_of_mem (List.mem_map.mpr ⟨(i, (.inr x : Fs)), f_lk_mem lv i _ h, rfl⟩ : (i, f_v b (.inr x)) ∈ f_lv b lv)
  exact lv_iinc hC.1 hC.2.1 hdg hl (k := j) (x := x) hj hx (by rw [hC.2.2.2.2.2.2.2.2.2.2.1]; exact hi) rfl (fun ls' h' => k H locs ls' hW hS (f_st_has h'))
theorem Zv.if_eq {x : Int32} {off : Int} {tgt : Nat} (hC : Fc G M d mc ms) (hdg : decode M.2.1 pc = .ok (.ifCond .eq off, 3)) (ht : (pc : Int) + off = (tgt : Int)) (kt : x = 0 → Zv G Q n cells slots tgt lv st I P) (kf : ¬ x = 0 → Zv G Q n cells slots (pc + 3) lv st I P) : Zv G Q n cells slots pc lv (.inr x :: st) I P := by
  obtain ⟨p, l, e, R, s, m, args, below, meth, c, D, ta, b, nL⟩ := G
  intro H locs ls hW hS hl
  exact lv_if_eq hC.1 hC.2.1 hdg ht (fun h => kt h H locs ls hW hS hl) (fun h => kf h H locs ls hW hS hl)
theorem Zv.icmp_eq {x y : Int32} {off : Int} {tgt : Nat} (hC : Fc G M d mc ms) (hdg : decode M.2.1 pc = .ok (.if_icmp .eq off, 3)) (ht : (pc : Int) + off = (tgt : Int)) (kt : x = y → Zv G Q n cells slots tgt lv st I P) (kf : ¬ x = y → Zv G Q n cells slots (pc + 3) lv st I P) : Zv G Q n cells slots pc lv (.inr y :: .inr x :: st) I P := by
  obtain ⟨p, l, e, R, s, m, args, below, meth, c, D, ta, b, nL⟩ := G
  intro H locs ls hW hS hl
  exact lv_icmp_eq hC.1 hC.2.1 hdg ht (fun h => kt h H locs ls hW hS hl) (fun h => kf h H locs ls hW hS hl)
theorem Zv.if_ne {x : Int32} {off : Int} {tgt : Nat} (hC : Fc G M d mc ms) (hdg : decode M.2.1 pc = .ok (.ifCond .ne off, 3)) (ht : (pc : Int) + off = (tgt : Int)) (kt : ¬ x = 0 → Zv G Q n cells slots tgt lv st I P) (kf : x = 0 → Zv G Q n cells slots (pc + 3) lv st I P) : Zv G Q n cells slots pc lv (.inr x :: st) I P := by
  obtain ⟨p, l, e, R, s, m, args, below, meth, c, D, ta, b, nL⟩ := G
  intro H locs ls hW hS hl
  exact lv_if_ne hC.1 hC.2.1 hdg ht (fun h => kt h H locs ls hW hS hl) (fun h => kf h H locs ls hW hS hl)
theorem Zv.icmp_ne {x y : Int32} {off : Int} {tgt : Nat} (hC : Fc G M d mc ms) (hdg : decode M.2.1 pc = .ok (.if_icmp .ne off, 3)) (ht : (pc : Int) + off = (tgt : Int)) (kt : ¬ x = y → Zv G Q n cells slots tgt lv st I P) (kf : x = y → Zv G Q n cells slots (pc + 3) lv st I P) : Zv G Q n cells slots pc lv (.inr y :: .inr x :: st) I P := by
  obtain ⟨p, l, e, R, s, m, args, below, meth, c, D, ta, b, nL⟩ := G
  intro H locs ls hW hS hl
  exact lv_icmp_ne hC.1 hC.2.1 hdg ht (fun h => kt h H locs ls hW hS hl) (fun h => kf h H locs ls hW hS hl)
theorem Zv.if_lt {x : Int32} {off : Int} {tgt : Nat} (hC : Fc G M d mc ms) (hdg : decode M.2.1 pc = .ok (.ifCond .lt off, 3)) (ht : (pc : Int) + off = (tgt : Int)) (kt : x < 0 → Zv G Q n cells slots tgt lv st I P) (kf : ¬ x < 0 → Zv G Q n cells slots (pc + 3) lv st I P) : Zv G Q n cells slots pc lv (.inr x :: st) I P := by
  obtain ⟨p, l, e, R, s, m, args, below, meth, c, D, ta, b, nL⟩ := G
  intro H locs ls hW hS hl
  exact lv_if_lt hC.1 hC.2.1 hdg ht (fun h => kt h H locs ls hW hS hl) (fun h => kf h H locs ls hW hS hl)
theorem Zv.icmp_lt {x y : Int32} {off : Int} {tgt : Nat} (hC : Fc G M d mc ms) (hdg : decode M.2.1 pc = .ok (.if_icmp .lt off, 3)) (ht : (pc : Int) + off = (tgt : Int)) (kt : x < y → Zv G Q n cells slots tgt lv st I P) (kf : ¬ x < y → Zv G Q n cells slots (pc + 3) lv st I P) : Zv G Q n cells slots pc lv (.inr y :: .inr x :: st) I P := by
  obtain ⟨p, l, e, R, s, m, args, below, meth, c, D, ta, b, nL⟩ := G
  intro H locs ls hW hS hl
  exact lv_icmp_lt hC.1 hC.2.1 hdg ht (fun h => kt h H locs ls hW hS hl) (fun h => kf h H locs ls hW hS hl)
theorem Zv.if_ge {x : Int32} {off : Int} {tgt : Nat} (hC : Fc G M d mc ms) (hdg : decode M.2.1 pc = .ok (.ifCond .ge off, 3)) (ht : (pc : Int) + off = (tgt : Int)) (kt : 0 ≤ x → Zv G Q n cells slots tgt lv st I P) (kf : ¬ 0 ≤ x → Zv G Q n cells slots (pc + 3) lv st I P) : Zv G Q n cells slots pc lv (.inr x :: st) I P := by
  obtain ⟨p, l, e, R, s, m, args, below, meth, c, D, ta, b, nL⟩ := G
  intro H locs ls hW hS hl
  exact lv_if_ge hC.1 hC.2.1 hdg ht (fun h => kt h H locs ls hW hS hl) (fun h => kf h H locs ls hW hS hl)
theorem Zv.icmp_ge {x y : Int32} {off : Int} {tgt : Nat} (hC : Fc G M d mc ms) (hdg : decode M.2.1 pc = .ok (.if_icmp .ge off, 3)) (ht : (pc : Int) + off = (tgt : Int)) (kt : y ≤ x → Zv G Q n cells slots tgt lv st I P) (kf : ¬ y ≤ x → Zv G Q n cells slots (pc + 3) lv st I P) : Zv G Q n cells slots pc lv (.inr y :: .inr x :: st) I P := by
  obtain ⟨p, l, e, R, s, m, args, below, meth, c, D, ta, b, nL⟩ := G
  intro H locs ls hW hS hl
  exact lv_icmp_ge hC.1 hC.2.1 hdg ht (fun h => kt h H locs ls hW hS hl) (fun h => kf h H locs ls hW hS hl)
theorem Zv.if_gt {x : Int32} {off : Int} {tgt : Nat} (hC : Fc G M d mc ms) (hdg : decode M.2.1 pc = .ok (.ifCond .gt off, 3)) (ht : (pc : Int) + off = (tgt : Int)) (kt : 0 < x → Zv G Q n cells slots tgt lv st I P) (kf : ¬ 0 < x → Zv G Q n cells slots (pc + 3) lv st I P) : Zv G Q n cells slots pc lv (.inr x :: st) I P := by
  obtain ⟨p, l, e, R, s, m, args, below, meth, c, D, ta, b, nL⟩ := G
  intro H locs ls hW hS hl
  exact lv_if_gt hC.1 hC.2.1 hdg ht (fun h => kt h H locs ls hW hS hl) (fun h => kf h H locs ls hW hS hl)
theorem Zv.icmp_gt {x y : Int32} {off : Int} {tgt : Nat} (hC : Fc G M d mc ms) (hdg : decode M.2.1 pc = .ok (.if_icmp .gt off, 3)) (ht : (pc : Int) + off = (tgt : Int)) (kt : y < x → Zv G Q n cells slots tgt lv st I P) (kf : ¬ y < x → Zv G Q n cells slots (pc + 3) lv st I P) : Zv G Q n cells slots pc lv (.inr y :: .inr x :: st) I P := by
  obtain ⟨p, l, e, R, s, m, args, below, meth, c, D, ta, b, nL⟩ := G
  intro H locs ls hW hS hl
  exact lv_icmp_gt hC.1 hC.2.1 hdg ht (fun h => kt h H locs ls hW hS hl) (fun h => kf h H locs ls hW hS hl)
theorem Zv.if_le {x : Int32} {off : Int} {tgt : Nat} (hC : Fc G M d mc ms) (hdg : decode M.2.1 pc = .ok (.ifCond .le off, 3)) (ht : (pc : Int) + off = (tgt : Int)) (kt : x ≤ 0 → Zv G Q n cells slots tgt lv st I P) (kf : ¬ x ≤ 0 → Zv G Q n cells slots (pc + 3) lv st I P) : Zv G Q n cells slots pc lv (.inr x :: st) I P := by
  obtain ⟨p, l, e, R, s, m, args, below, meth, c, D, ta, b, nL⟩ := G
  intro H locs ls hW hS hl
  exact lv_if_le hC.1 hC.2.1 hdg ht (fun h => kt h H locs ls hW hS hl) (fun h => kf h H locs ls hW hS hl)
theorem Zv.icmp_le {x y : Int32} {off : Int} {tgt : Nat} (hC : Fc G M d mc ms) (hdg : decode M.2.1 pc = .ok (.if_icmp .le off, 3)) (ht : (pc : Int) + off = (tgt : Int)) (kt : x ≤ y → Zv G Q n cells slots tgt lv st I P) (kf : ¬ x ≤ y → Zv G Q n cells slots (pc + 3) lv st I P) : Zv G Q n cells slots pc lv (.inr y :: .inr x :: st) I P := by
  obtain ⟨p, l, e, R, s, m, args, below, meth, c, D, ta, b, nL⟩ := G
  intro H locs ls hW hS hl
  exact lv_icmp_le hC.1 hC.2.1 hdg ht (fun h => kt h H locs ls hW hS hl) (fun h => kf h H locs ls hW hS hl)
theorem Zv.tabOut {dflt lo hi : Int} {offs : Array Int} {len tgt : Nat} {x : Int32} (hC : Fc G M d mc ms) (hdg : decode M.2.1 pc = .ok (.tableswitch dflt lo hi offs, len)) (h : x.toInt < lo ∨ hi < x.toInt) (ht : (pc : Int) + dflt = (tgt : Int)) (k : Zv G Q n cells slots tgt lv st I P) : Zv G Q n cells slots pc lv (.inr x :: st) I P := by
  obtain ⟨p, l, e, R, s, m, args, below, meth, c, D, ta, b, nL⟩ := G
  intro H locs ls hW hS hl
  exact lv_tableOut hC.1 hC.2.1 hdg h ht (k H locs ls hW hS hl)
theorem Zv.tabIn {dflt lo hi : Int} {offs : Array Int} {len tgt : Nat} {x : Int32} {off : Int} (hC : Fc G M d mc ms) (hdg : decode M.2.1 pc = .ok (.tableswitch dflt lo hi offs, len)) (h1 : ¬ x.toInt < lo) (h2 : ¬ hi < x.toInt) (ho : offs[(x.toInt - lo).toNat]? = some off) (ht : (pc : Int) + off = (tgt : Int)) (k : Zv G Q n cells slots tgt lv st I P) : Zv G Q n cells slots pc lv (.inr x :: st) I P := by
  obtain ⟨p, l, e, R, s, m, args, below, meth, c, D, ta, b, nL⟩ := G
  intro H locs ls hW hS hl
  exact lv_tableIn hC.1 hC.2.1 hdg h1 h2 ho ht (k H locs ls hW hS hl)
theorem Zv.lookup {dflt : Int} {ps : Array (Int × Int)} {len tgt : Nat} {x : Int32} {off : Int} (hC : Fc G M d mc ms) (hdg : decode M.2.1 pc = .ok (.lookupswitch dflt ps, len)) (hp : (ps.toList.zip (ps.toList.drop 1)).all (fun (a, next) => a.1 < next.1) = true) (ho : Op.lookupswitch.offset ps.toList dflt x.toInt = off) (ht : (pc : Int) + off = (tgt : Int)) (k : Zv G Q n cells slots tgt lv st I P) : Zv G Q n cells slots pc lv (.inr x :: st) I P := by
  obtain ⟨p, l, e, R, s, m, args, below, meth, c, D, ta, b, nL⟩ := G
  intro H locs ls hW hS hl
  exact lv_lookup hC.1 hC.2.1 hdg hp ho ht (k H locs ls hW hS hl)
/-- of a class: its fields' types, their names apart, their words -/
def f_CK (ci : Nat) (r : vw_C) (ty : Nat → FieldType) : Prop := f_cl[ci]? = some r ∧ (∀ k, k < r.2.2 → parseFieldDescriptor (r.2.1 k).2.2.1 = some (ty k)) ∧ (∀ a, a < r.2.2 → ∀ b, b < r.2.2 → a ≠ b → (r.2.1 a).2.1 ≠ (r.2.1 b).2.1) ∧ ∀ w ∈ u_ws r.1 r.2.1 r.2.2, w ∈ f_T
theorem Zv.geti {idx ci j k : Nat} {v : Int32} (hC : Fc G M d mc ms) (hdg : decode M.2.1 pc = .ok (.getfield idx, 3)) (hF : f_FD M.1.cls idx ci j) (hf : f_fk ci j = false) (hk : f_shp k = .inr ci) (hn : k < n) (hv : I k j = v) (kk : Zv G Q n cells slots (pc + 3) lv (.inr v :: st) I P) : Zv G Q n cells slots pc lv (rf (k + 1) :: st) I P := by
  obtain ⟨p, l, e, R, s, m, args, below, meth, c, D, ta, b, nL⟩ := G
  intro H locs ls hW hS hl
  obtain ⟨hx, hb, hml, hown, hts, hlk, hrt, hnm, hK, hsz, hnL, hfr, hlo, hce, hsl⟩ := hC
  obtain ⟨r, hr, hj, hL, hin⟩ := hF
  obtain ⟨r', hr', cell, q1, q2, q3, q4⟩ := f_at_obj (hW.2 k hn) hk
  obtain rfl : r' = r := Option.some.inj (hr'.symm.trans hr)
  obtain ⟨hS', hfc, kC, hkC, hkind⟩ := hK.1.1 ci _ hr
  obtain ⟨cf, kf, fi, f, hi, hsl'⟩ := hS' j hj
  have hst := (u_facts hfc hkC (u_lays hts hin hj) hi).1
  have hval : cell.slots[f.slot]? = some (.int v) := by
    rw [hsl', q4 j hj]
    simp [f_ov, hf, hv]
  rcases hL with hL | ⟨host, hL⟩
  · exact W.getf hx hb hown (hts _ hL) hi hst q1 (by rw [q3]; exact fun h => by cases h) hval rfl rfl hdg (kk H locs ls hW hS hl)
  · exact va_Wgetf hx hb hown (va_Nw.use (f_N_on hL) (hK.2.1 _ hL)) hi hst q1 (by rw [q3]; exact fun h => by cases h) hval rfl rfl hdg (kk H locs ls hW hS hl)
theorem Zv.getr {idx ci j k q : Nat} (hC : Fc G M d mc ms) (hdg : decode M.2.1 pc = .ok (.getfield idx, 3)) (hF : f_FD M.1.cls idx ci j) (hf : f_fk ci j = true) (hk : f_shp k = .inr ci) (hn : k < n) (hv : P k j = q) (kk : Zv G Q n cells slots (pc + 3) lv (rf q :: st) I P) : Zv G Q n cells slots pc lv (rf (k + 1) :: st) I P := by
  obtain ⟨p, l, e, R, s, m, args, below, meth, c, D, ta, b, nL⟩ := G
  intro H locs ls hW hS hl
  obtain ⟨hx, hb, hml, hown, hts, hlk, hrt, hnm, hK, hsz, hnL, hfr, hlo, hce, hsl⟩ := hC
  obtain ⟨r, hr, hj, hL, hin⟩ := hF
  obtain ⟨r', hr', cell, q1, q2, q3, q4⟩ := f_at_obj (hW.2 k hn) hk
  obtain rfl : r' = r := Option.some.inj (hr'.symm.trans hr)
  obtain ⟨hS', hfc, kC, hkC, hkind⟩ := hK.1.1 ci _ hr
  obtain ⟨cf, kf, fi, f, hi, hsl'⟩ := hS' j hj
  have hst := (u_facts hfc hkC (u_lays hts hin hj) hi).1
  have hval : cell.slots[f.slot]? = some (f_v b (rf q)) := by
    rw [hsl', q4 j hj]
    simp [f_ov, hf, hv]
  rcases hL with hL | ⟨host, hL⟩
  · exact W.getf hx hb hown (hts _ hL) hi hst q1 (by rw [q3]; exact fun h => by cases h) hval rfl rfl hdg (kk H locs ls hW hS hl)
  · exact va_Wgetf hx hb hown (va_Nw.use (f_N_on hL) (hK.2.1 _ hL)) hi hst q1 (by rw [q3]; exact fun h => by cases h) hval rfl rfl hdg (kk H locs ls hW hS hl)
theorem Zv.puti {idx ci j k : Nat} {v : Int32} {r : vw_C} {ty0 : Nat → FieldType} (hC : Fc G M d mc ms) (hdg : decode M.2.1 pc = .ok (.putfield idx, 3)) (hF : f_FD M.1.cls idx ci j) (hf : f_fk ci j = false) (hc : f_CK ci r ty0) (hfin : (r.2.1 j).2.2.2 = false) (hnr : narrow (ty0 j) (.int v) = .int v) (hft : fits (ty0 j) (.int v) = true) (hk : f_shp k = .inr ci) (hn : k < n) (kk : Zv G Q n cells slots (pc + 3) lv st (f_u I k j v) P) : Zv G Q n cells slots pc lv (.inr v :: rf (k + 1) :: st) I P := by
  obtain ⟨p, l, e, R, s, m, args, below, meth, c, D, ta, b, nL⟩ := G
  intro H locs ls hW hS hl
  obtain ⟨hx, hb, hml, hown, hts, hlk, hrt, hnm, hK, hsz, hnL, hfr, hlo, hce, hsl⟩ := hC
  obtain ⟨r0, hr0, hj, hL, -⟩ := hF
  obtain ⟨hr, hty, hnm2, hin⟩ := hc
  obtain rfl : r0 = r := Option.some.inj (hr0.symm.trans hr)
  obtain ⟨r', hr', cell, q1, q2, q3, q4⟩ := f_at_obj (hW.2 k hn) hk
  obtain rfl : r' = r0 := Option.some.inj (hr'.symm.trans hr)
  have hap := va_apart (own := M.1.cls) hts hin ty0 hty hnm2 hK.1 hr
  obtain ⟨hS', hfc, kC, hkC, hkind⟩ := hK.1.1 ci _ hr
  obtain ⟨cf, kf, fi, f, hi, hsl'⟩ := hS' j hj
  have hst := (u_facts hfc hkC (u_lays hts hin hj) hi).1
  have hlay := hts _ (hin _ (u_in_lay hj))
  unfold u_lay at hlay
  rw [if_neg (by rw [hfin]; decide)] at hlay
  have h6 := u_store hfc hkC hkind hlay hi (hty j hj) hnr hft
  have fin : ∀ H' : Heap, H'[b + k]? = some (cell.setSlot f.slot (.int v)) → H'.size = H.size → (∀ q, q ≠ b + k → H'[q]? = H[q]?) → W p l e R s m args below meth c H' (locs ++ [⟨b + k, f.slot⟩]) cells slots Q (F0 m (pc + 3) ls (st.map (f_v b))) := by
    intro H' e1 e2 e3
    rw [hsl'] at e1
    refine kk H' _ ls (f_W_set hW e2 e3 (fun a ha => f_u_ne ha) (fun _ _ => rfl) (f_obj_at hk hr (t_OB.to (V := updV (f_ov b ci I P k) j (.int v)) ⟨_, e1, q2, q3, t_set q4 hap hj _⟩ (fun a _ => ?_)))) (hS.put e2 e3 (Nat.le_add_right b k)) hl
    by_cases ha : a = j
    · subst ha
      simp [updV, f_ov, f_u, hf]
    · simp [updV, f_ov, f_u, ha]
  rcases hL with hL | ⟨host, hL⟩
  · exact W.putK hx hb (f := f) ⟨hown, hts _ hL, ⟨_, _, _, hi⟩, hst⟩ (by rw [q2]; exact h6) q1 q3 (by rw [hsl']; exact k2_hasslot (q4 j hj)) rfl rfl hdg fin
  · exact va_WputK hx hb (f := f) hown (va_Nw.use (f_N_on hL) (hK.2.1 _ hL)) hi hst (by rw [q2]; exact h6) q1 q3 (by rw [hsl']; exact k2_hasslot (q4 j hj)) rfl rfl hdg fin
/-- a final reference field, in its class's constructor -/
theorem Zv.putF {idx ci j k q : Nat} {r : vw_C} {ty0 : Nat → FieldType} (hC : Fc G M d mc ms) (hdg : decode M.2.1 pc = .ok (.putfield idx, 3)) (hF : f_FD M.1.cls idx ci j) (hf : f_fk ci j = true) (hc : f_CK ci r ty0) (hfin : (r.2.1 j).2.2.2 = true) (hdecl : (r.2.1 j).1 = M.1.cls) (hin2 : M.1.name = "<init>") (hnr : ∀ a, narrow (ty0 j) (.ref a) = .ref a) (hft : ∀ a, fits (ty0 j) (.ref a) = true) (hk : f_shp k = .inr ci) (hn : k < n) (kk : Zv G Q n cells slots (pc + 3) lv st I (f_u P k j (q + 1))) : Zv G Q n cells slots pc lv (rf (q + 1) :: rf (k + 1) :: st) I P := by
  obtain ⟨p, l, e, R, s, m, args, below, meth, c, D, ta, b, nL⟩ := G
  intro H locs ls hW hS hl
  obtain ⟨hx, hb, hml, hown, hts, hlk, hrt, hnm, hK, hsz, hnL, hfr, hlo, hce, hsl⟩ := hC
  obtain ⟨r0, hr0, hj, hL, -⟩ := hF
  obtain ⟨hr, hty, hnm2, hin⟩ := hc
  obtain rfl : r0 = r := Option.some.inj (hr0.symm.trans hr)
  obtain ⟨r', hr', cell, q1, q2, q3, q4⟩ := f_at_obj (hW.2 k hn) hk
  obtain rfl : r' = r0 := Option.some.inj (hr'.symm.trans hr)
  have hap := va_apart (own := M.1.cls) hts hin ty0 hty hnm2 hK.1 hr
  obtain ⟨hS', hfc, kC, hkC, hkind⟩ := hK.1.1 ci _ hr
  obtain ⟨cf, kf, fi, f, hi, hsl'⟩ := hS' j hj
  have hst := (u_facts hfc hkC (u_lays hts hin hj) hi).1
  have hlay := hts _ (hin _ (u_in_lay hj))
  unfold u_lay at hlay
  rw [if_pos hfin] at hlay
  have hcf : m.cls = cf := by
    obtain ⟨_, _, c', _, _, _, -, -, hf', -, -, -, hown2, -⟩ := Cond.laysFinal_spec hlay
    have e1 : c' = cf := by have := hi.symm.trans hf'; simp at this; exact this.1.symm
    rw [hdecl] at hown2
    rw [← e1]; exact Option.some.inj (hown.symm.trans hown2)
  have h6 := u_fits hfc hkC hkind (Or.inr hlay) hi (hty j hj) (hnr (b + q)) (hft (b + q))
  have fin : ∀ H' : Heap, H'[b + k]? = some (cell.setSlot f.slot (.ref (b + q))) → H'.size = H.size → (∀ q, q ≠ b + k → H'[q]? = H[q]?) → W p l e R s m args below meth c H' (locs ++ [⟨b + k, f.slot⟩]) cells slots Q (F0 m (pc + 3) ls (st.map (f_v b))) := by
    intro H' e1 e2 e3
    rw [hsl'] at e1
    refine kk H' _ ls (f_W_set hW e2 e3 (fun _ _ => rfl) (fun a ha => f_u_ne ha) (f_obj_at hk hr (t_OB.to (V := updV (f_ov b ci I P k) j (.ref (b + q))) ⟨_, e1, q2, q3, t_set q4 hap hj _⟩ (fun a _ => ?_)))) (hS.put e2 e3 (Nat.le_add_right b k)) hl
    by_cases ha : a = j
    · subst ha
      simp [updV, f_ov, f_u, hf, f_v]
    · simp [updV, f_ov, f_u, ha]
  rcases hL with hL | ⟨host, hL⟩
  · exact W.putFinK hx hb hown (hts _ hL) hi hst hcf (hnm.trans hin2) (by rw [q2]; exact h6) q1 q3 (by rw [hsl']; exact k2_hasslot (q4 j hj)) rfl rfl hdg fin
  · have ha : b + k < H.size := (Array.getElem?_eq_some_iff.mp q1).1
    refine va_Wputf hx hb hown (va_Nw.use (f_N_on hL) (hK.2.1 _ hL)) hi hst (Or.inr ⟨hcf, hnm.trans hin2⟩) q1 (by rw [q3]; exact fun h => by cases h) (by rw [hsl']; exact k2_hasslot (q4 j hj)) h6.1 (by rw [q3, q2]; exact h6.2) rfl rfl hdg (fin _ ?_ ?_ ?_)
    · simp [Array.getElem?_setIfInBounds, ha]
    · simp
    · intro q hq
      simp [Array.getElem?_setIfInBounds, Ne.symm hq]
theorem Zv.iald {k N j : Nat} {i v : Int32} (hC : Fc G M d mc ms) (hdg : decode M.2.1 pc = .ok (.iaload, 1)) (hk : f_shp k = .inl (0, N)) (hn : k < n) (hi : i = nI j) (hj : j < N) (hN : N < 2 ^ 31) (hv : I k j = v) (kk : Zv G Q n cells slots (pc + 1) lv (.inr v :: st) I P) : Zv G Q n cells slots pc lv (.inr i :: rf (k + 1) :: st) I P := by
  subst hi
  obtain ⟨p, l, e, R, s, m, args, below, meth, c, D, ta, b, nL⟩ := G
  intro H locs ls hW hS hl
  obtain ⟨hx, hb, hml, hown, hts, hlk, hrt, hnm, hK, hsz, hnL, hfr, hlo, hce, hsl⟩ := hC
  exact W.iald (v := .int v) hx hb (f_at_arr (hW.2 k hn) hk) ((hK.1.2 0 _ rfl).1 N _) (fun q => by cases q) (by rw [arrV_size]; exact nI_in hj hN) (by rw [nI_clamp (by omega), arrV_read _ _ hj]; simp [f_av, hv]) rfl rfl hdg (kk H locs ls hW hS hl)
theorem Zv.zald {k N j : Nat} {i v : Int32} (hC : Fc G M d mc ms) (hdg : decode M.2.1 pc = .ok (.baload, 1)) (hk : f_shp k = .inl (1, N)) (hn : k < n) (hi : i = nI j) (hj : j < N) (hN : N < 2 ^ 31) (hv : I k j = v) (kk : Zv G Q n cells slots (pc + 1) lv (.inr v :: st) I P) : Zv G Q n cells slots pc lv (.inr i :: rf (k + 1) :: st) I P := by
  subst hi
  obtain ⟨p, l, e, R, s, m, args, below, meth, c, D, ta, b, nL⟩ := G
  intro H locs ls hW hS hl
  obtain ⟨hx, hb, hml, hown, hts, hlk, hrt, hnm, hK, hsz, hnL, hfr, hlo, hce, hsl⟩ := hC
  exact W.zald (v := .int v) hx hb (f_at_arr (hW.2 k hn) hk) ((hK.1.2 1 _ rfl).1 N _) (fun q => by cases q) (by rw [arrV_size]; exact nI_in hj hN) (by rw [nI_clamp (by omega), arrV_read _ _ hj]; simp [f_av, hv]) rfl rfl hdg (kk H locs ls hW hS hl)
theorem Zv.aald {k t N j q : Nat} {i : Int32} {C : String} (hC : Fc G M d mc ms) (hdg : decode M.2.1 pc = .ok (.aaload, 1)) (hk : f_shp k = .inl (t, N)) (ht : ∀ ta, (f_tys ta)[t]? = some (ta t, .object C)) (ht2 : 2 ≤ t) (hn : k < n) (hi : i = nI j) (hj : j < N) (hN : N < 2 ^ 31) (hv : P k j = q) (kk : Zv G Q n cells slots (pc + 1) lv (rf q :: st) I P) : Zv G Q n cells slots pc lv (.inr i :: rf (k + 1) :: st) I P := by
  subst hi
  obtain ⟨p, l, e, R, s, m, args, below, meth, c, D, ta, b, nL⟩ := G
  intro H locs ls hW hS hl
  obtain ⟨hx, hb, hml, hown, hts, hlk, hrt, hnm, hK, hsz, hnL, hfr, hlo, hce, hsl⟩ := hC
  exact W.aald (v := f_v b (rf q)) (ty := .object C) hx hb (f_at_arr (hW.2 k hn) hk) ((hK.1.2 t _ (ht ta)).1 N _) rfl (fun q => by cases q) (by rw [arrV_size]; exact nI_in hj hN) (by rw [nI_clamp (by omega), arrV_read _ _ hj]; simp [f_av, hv, Nat.not_lt.mpr ht2]) rfl rfl hdg (kk H locs ls hW hS hl)
theorem f_arr_set {D : va_G} {ta : Nat → ClassId} {b k t N j : Nat} {I I' : Fm} {P P' : Fr} {H H' : Heap} {x : Value} (hW : f_W D ta b n I P H) (hk : f_shp k = .inl (t, N)) (e1 : H'[b + k]? = some ((arrV (ta t) N (f_av b t I P k)).setSlot j x)) (e2 : H'.size = H.size) (e3 : ∀ q, q ≠ b + k → H'[q]? = H[q]?) (hI : ∀ a, a ≠ k → I' a = I a) (hP : ∀ a, a ≠ k → P' a = P a) (hx : updV (f_av b t I P k) j x = f_av b t I' P' k) : f_W D ta b n I' P' H' := by
  refine f_W_set hW e2 e3 hI hP (f_arr_at hk ?_)
  rw [e1, arrV_store, hx]
theorem Zv.iast {k N j : Nat} {i v : Int32} (hC : Fc G M d mc ms) (hdg : decode M.2.1 pc = .ok (.iastore, 1)) (hk : f_shp k = .inl (0, N)) (hn : k < n) (hi : i = nI j) (hj : j < N) (hN : N < 2 ^ 31) (kk : Zv G Q n cells slots (pc + 1) lv st (f_u I k j v) P) : Zv G Q n cells slots pc lv (.inr v :: .inr i :: rf (k + 1) :: st) I P := by
  subst hi
  obtain ⟨p, l, e, R, s, m, args, below, meth, c, D, ta, b, nL⟩ := G
  intro H locs ls hW hS hl
  obtain ⟨hx, hb, hml, hown, hts, hlk, hrt, hnm, hK, hsz, hnL, hfr, hlo, hce, hsl⟩ := hC
  refine W.iast (x := v) hx hb (f_at_arr (hW.2 k hn) hk) ((hK.1.2 0 _ rfl).1 N _) (fun q => by cases q) (by rw [arrV_size]; exact nI_in hj hN) rfl rfl hdg fun H' e1 e2 e3 => ?_
  rw [nI_clamp (by omega)] at e1 ⊢
  refine kk H' _ ls (f_arr_set hW hk e1 e2 e3 (fun a ha => f_u_ne ha) (fun _ _ => rfl) ?_) (hS.put e2 e3 (Nat.le_add_right b k)) hl
  funext a
  by_cases ha : a = j
  · subst ha
    simp [updV, f_av, f_u]
  · simp [updV, f_av, f_u, ha]
theorem Zv.zast {k N j : Nat} {i v : Int32} (hC : Fc G M d mc ms) (hdg : decode M.2.1 pc = .ok (.bastore, 1)) (hk : f_shp k = .inl (1, N)) (hn : k < n) (hi : i = nI j) (hj : j < N) (hN : N < 2 ^ 31) (hnr : narrow .boolean (.int v) = .int v) (kk : Zv G Q n cells slots (pc + 1) lv st (f_u I k j v) P) : Zv G Q n cells slots pc lv (.inr v :: .inr i :: rf (k + 1) :: st) I P := by
  subst hi
  obtain ⟨p, l, e, R, s, m, args, below, meth, c, D, ta, b, nL⟩ := G
  intro H locs ls hW hS hl
  obtain ⟨hx, hb, hml, hown, hts, hlk, hrt, hnm, hK, hsz, hnL, hfr, hlo, hce, hsl⟩ := hC
  refine W.zast (x := v) hx hb (f_at_arr (hW.2 k hn) hk) ((hK.1.2 1 _ rfl).1 N _) (fun q => by cases q) (by rw [arrV_size]; exact nI_in hj hN) rfl rfl hdg fun H' e1 e2 e3 => ?_
  rw [nI_clamp (by omega)] at e1 ⊢
  rw [hnr] at e1
  refine kk H' _ ls (f_arr_set hW hk e1 e2 e3 (fun a ha => f_u_ne ha) (fun _ _ => rfl) ?_) (hS.put e2 e3 (Nat.le_add_right b k)) hl
  funext a
  by_cases ha : a = j
  · subst ha
    simp [updV, f_av, f_u]
  · simp [updV, f_av, f_u, ha]
theorem Zv.aast {k t N j q ci : Nat} {i : Int32} {r : vw_C} (hC : Fc G M d mc ms) (hdg : decode M.2.1 pc = .ok (.aastore, 1)) (hk : f_shp k = .inl (t, N)) (ht : ∀ ta, (f_tys ta)[t]? = some (ta t, .object r.1)) (ht2 : 2 ≤ t) (hn : k < n) (hi : i = nI j) (hj : j < N) (hN : N < 2 ^ 31) (hq : f_shp q = .inr ci) (hqn : q < n) (hr : f_cl[ci]? = some r) (kk : Zv G Q n cells slots (pc + 1) lv st I (f_u P k j (q + 1))) : Zv G Q n cells slots pc lv (rf (q + 1) :: .inr i :: rf (k + 1) :: st) I P := by
  subst hi
  obtain ⟨p, l, e, R, s, m, args, below, meth, c, D, ta, b, nL⟩ := G
  intro H locs ls hW hS hl
  obtain ⟨hx, hb, hml, hown, hts, hlk, hrt, hnm, hK, hsz, hnL, hfr, hlo, hce, hsl⟩ := hC
  obtain ⟨r', hr', cellV, g1, g2, g3, -⟩ := f_at_obj (hW.2 q hqn) hq
  have hcls := (hK.1.1 ci r hr).2
  obtain ⟨kA, comp, k1, k2, k3, -⟩ := (hK.1.2 t _ (ht ta)).2
  have hcomp : comp = D.1 ci := Option.some.inj (k3.symm.trans hcls.1)
  subst hcomp
  obtain ⟨kC, hkC, -⟩ := hcls.2
  refine W.aast hx hb (f_at_arr (hW.2 k hn) hk) (fun q h => by cases h) (fun h => by cases h) k1 k2 rfl hkC ⟨nI_pos (by omega), by rw [nI_clamp (by omega), arrV_size]; exact hj⟩ g1 (fun q h => by rw [g3] at h; cases h) (by rw [g2]; exact hkC) (by rw [g2]; exact va_assign hcls) rfl rfl hdg fun H' e1 e2 e3 => ?_
  rw [nI_clamp (by omega)] at e1 ⊢
  refine kk H' _ ls (f_arr_set hW hk e1 e2 e3 (fun _ _ => rfl) (fun a ha => f_u_ne ha) ?_) (hS.put e2 e3 (Nat.le_add_right b k)) hl
  funext a
  by_cases ha : a = j
  · subst ha
    simp [updV, f_av, f_u, f_v, Nat.not_lt.mpr ht2]
  · simp [updV, f_av, f_u, ha]
theorem Zv.alen {k t N : Nat} (hC : Fc G M d mc ms) (hdg : decode M.2.1 pc = .ok (.arraylength, 1)) (hk : f_shp k = .inl (t, N)) {ty : FieldType} (ht : ∀ ta, (f_tys ta)[t]? = some (ta t, ty)) (hn : k < n) (kk : Zv G Q n cells slots (pc + 1) lv (.inr (nI N) :: st) I P) : Zv G Q n cells slots pc lv (rf (k + 1) :: st) I P := by
  obtain ⟨p, l, e, R, s, m, args, below, meth, c, D, ta, b, nL⟩ := G
  intro H locs ls hW hS hl
  obtain ⟨hx, hb, hml, hown, hts, hlk, hrt, hnm, hK, hsz, hnL, hfr, hlo, hce, hsl⟩ := hC
  exact W.alen (n := nI N) hx hb (f_at_arr (hW.2 k hn) hk) ((hK.1.2 t _ (ht ta)).1 N _) (by rw [arrV_size]; rfl) rfl rfl hdg (kk H locs ls hW hS hl)
/-! the static table, read at an int: getstatic, the index, iaload -/
theorem Zv.gst_iload_n {idx j : Nat} {i : Fin 4} {x : Int32} (hC : Fc G M d mc ms) (h1 : decode M.2.1 pc = .ok (.getstatic idx, 3)) (h2 : decode M.2.1 (pc + 3) = .ok (.iload_n i, 1)) (h3 : decode M.2.1 (pc + 3 + 1) = .ok (.iaload, 1)) (hL : Cond.fieldLink M.1.cls idx f_zc f_zn "[I" ∈ f_T) (h : f_lk lv i = some (.inr x)) (hxj : x = nI j) (hj : j < f_zl) (kk : Zv G Q n cells slots (pc + 3 + 1 + 1) lv (.inr (f_zt j) :: st) I P) : Zv G Q n cells slots pc lv st I P := by
  subst hxj
  obtain ⟨p, l, e, R, s, m, args, below, meth, c, D, ta, b, nL⟩ := G
  intro H locs ls hW hS hl
  obtain ⟨hx, hb, hml, hown, hts, hlk, hrt, hnm, hK, hsz, hnL, hfr, hlo, hce, hsl⟩ := hC
  obtain ⟨t, hZ, hT, htb⟩ := hK.2.2.2
  have hz : f_zl < 2 ^ 31 := by decide
  refine va_gets hx hb hZ hS hown (hts _ hL) (fun _ h => h) h1 ?_
  refine lv_iload_n hx hb h2 rfl (f_lk_at hl h) ?_
  exact va_ti hx hb hT hS (i := nI j) (vp_in_nI hj hz) (v := .int (f_zt j)) (by rw [nI_clamp (by omega)]) h3 (kk H locs ls hW hS hl)
theorem Zv.gst_iconst {idx j : Nat} {z : Int} {x : Int32} (hC : Fc G M d mc ms) (h1 : decode M.2.1 pc = .ok (.getstatic idx, 3)) (h2 : decode M.2.1 (pc + 3) = .ok (.iconst z, 1)) (h3 : decode M.2.1 (pc + 3 + 1) = .ok (.iaload, 1)) (hL : Cond.fieldLink M.1.cls idx f_zc f_zn "[I" ∈ f_T) (h : Int32.ofInt z = x) (hxj : x = nI j) (hj : j < f_zl) (kk : Zv G Q n cells slots (pc + 3 + 1 + 1) lv (.inr (f_zt j) :: st) I P) : Zv G Q n cells slots pc lv st I P := by
  subst hxj
  obtain ⟨p, l, e, R, s, m, args, below, meth, c, D, ta, b, nL⟩ := G
  intro H locs ls hW hS hl
  obtain ⟨hx, hb, hml, hown, hts, hlk, hrt, hnm, hK, hsz, hnL, hfr, hlo, hce, hsl⟩ := hC
  obtain ⟨t, hZ, hT, htb⟩ := hK.2.2.2
  have hz : f_zl < 2 ^ 31 := by decide
  refine va_gets hx hb hZ hS hown (hts _ hL) (fun _ h => h) h1 ?_
  refine lv_iconst hx hb h2 h ?_
  exact va_ti hx hb hT hS (i := nI j) (vp_in_nI hj hz) (v := .int (f_zt j)) (by rw [nI_clamp (by omega)]) h3 (kk H locs ls hW hS hl)
theorem Zv.gst_bipush {idx j : Nat} {z : Int} {x : Int32} (hC : Fc G M d mc ms) (h1 : decode M.2.1 pc = .ok (.getstatic idx, 3)) (h2 : decode M.2.1 (pc + 3) = .ok (.bipush z, 2)) (h3 : decode M.2.1 (pc + 3 + 2) = .ok (.iaload, 1)) (hL : Cond.fieldLink M.1.cls idx f_zc f_zn "[I" ∈ f_T) (h : (Int8.ofInt z).toInt32 = x) (hxj : x = nI j) (hj : j < f_zl) (kk : Zv G Q n cells slots (pc + 3 + 2 + 1) lv (.inr (f_zt j) :: st) I P) : Zv G Q n cells slots pc lv st I P := by
  subst hxj
  obtain ⟨p, l, e, R, s, m, args, below, meth, c, D, ta, b, nL⟩ := G
  intro H locs ls hW hS hl
  obtain ⟨hx, hb, hml, hown, hts, hlk, hrt, hnm, hK, hsz, hnL, hfr, hlo, hce, hsl⟩ := hC
  obtain ⟨t, hZ, hT, htb⟩ := hK.2.2.2
  have hz : f_zl < 2 ^ 31 := by decide
  refine va_gets hx hb hZ hS hown (hts _ hL) (fun _ h => h) h1 ?_
  refine lv_bipush hx hb h2 h ?_
  exact va_ti hx hb hT hS (i := nI j) (vp_in_nI hj hz) (v := .int (f_zt j)) (by rw [nI_clamp (by omega)]) h3 (kk H locs ls hW hS hl)
/-! makings -/
theorem Zv.new {idx ci : Nat} {r : vw_C} {ty0 : Nat → FieldType} (hC : Fc G M d mc ms) (hdg : decode M.2.1 pc = .ok (.new idx, 3)) (hc : f_CK ci r ty0) (hw : Cond.classLink M.1.cls idx r.1 ∈ f_T) (hi : Cond.instantiable r.1 r.2.2 ∈ f_T) (hini : Cond.initialized r.1 ∈ f_T) (hs : f_shp n = .inr ci) (hdef : ∀ j, j < r.2.2 → defaultValue (ty0 j) = if f_fk ci j = true then .null else .int 0) (hI : ∀ j, I n j = 0) (hP : ∀ j, P n j = 0) (hc1 : cells + 1 ≤ mc) (hs1 : slots + r.2.2 ≤ ms) (kk : Zv G Q (n + 1) (cells + 1) (slots + r.2.2) (pc + 3) lv (rf (n + 1) :: st) I P) : Zv G Q n cells slots pc lv st I P := by
  obtain ⟨p, l, e, R, s, m, args, below, meth, c, D, ta, b, nL⟩ := G
  intro H locs ls hW hS hl
  obtain ⟨hx, hb, hml, hown, hts, hlk, hrt, hnm, hK, hsz, hnL, hfr, hlo, hce, hsl⟩ := hC
  obtain ⟨hr, hty, hnm2, hin⟩ := hc
  have hKn := hK.1.1 ci _ hr
  refine W.newcK hx hb hown (hts _ hw) (hts _ hi) (hts _ hini) rfl hdg (by omega) (by omega) hKn.2.1 hW.1 fun H1 kC hkC e1 z1 o1 => ?_
  refine kk H1 locs ls (f_W_push hW z1 o1 (f_obj_at hs hr ((u_born ty0 hts hin hKn hkC e1 hty).to (fun j hj => ?_)))) ⟨Nat.le_trans hS.1 (by rw [z1, hW.1]; omega), fun q h1 h2 => (o1 q (by have := hS.1; rw [hW.1] at this; omega)).trans (hS.2.1 q h1 h2), hS.2.2⟩ hl
  rw [hdef j hj]
  unfold f_ov
  rw [hI, hP]
  rfl
theorem Zv.newarr {t N : Nat} {v : Int32} {atype : ArrayType} (hC : Fc G M d mc ms) (hdg : decode M.2.1 pc = .ok (.newarray atype, 2)) (hw : Cond.arrayClass (newarray.typeOf atype) ∈ f_T) (ht : ∀ ta, (f_tys ta)[t]? = some (ta t, newarray.typeOf atype)) (hra : ∀ (s : State) (cA : ClassId), va_RA s cA (newarray.typeOf atype) → s.vm.findClass ("[" ++ (newarray.typeOf atype).toString) = some cA) (hdf : defaultValue (newarray.typeOf atype) = .int 0) (ht2 : t < 2) (hs : f_shp n = .inl (t, N)) (hv : v = nI N) (hN : N < 2 ^ 31) (hby : N * componentBytes (newarray.typeOf atype) ≤ 536870912) (hI : ∀ j, I n j = 0) (hc1 : cells + 1 ≤ mc) (hs1 : slots + N ≤ ms) (kk : Zv G Q (n + 1) (cells + 1) (slots + N) (pc + 2) lv (rf (n + 1) :: st) I P) : Zv G Q n cells slots pc lv (.inr v :: st) I P := by
  subst hv
  obtain ⟨p, l, e, R, s, m, args, below, meth, c, D, ta, b, nL⟩ := G
  intro H locs ls hW hS hl
  obtain ⟨hx, hb, hml, hown, hts, hlk, hrt, hnm, hK, hsz, hnL, hfr, hlo, hce, hsl⟩ := hC
  refine va_newaK (n := nI N) hx hb (hts _ hw) rfl hdg rfl (nI_pos hN) (nI_clamp hN) hby (by omega) (by omega) hW.1 fun H1 cA e1 z1 o1 _ h1 => ?_
  have hcA : cA = ta t := Option.some.inj (h1.symm.trans (hra s _ (hK.1.2 t _ (ht ta)).2))
  subst hcA
  refine kk H1 locs ls (f_W_push hW z1 o1 (f_arr_at hs ?_)) ⟨Nat.le_trans hS.1 (by rw [z1, hW.1]; omega), fun q h1 h2 => (o1 q (by have := hS.1; rw [hW.1] at this; omega)).trans (hS.2.1 q h1 h2), hS.2.2⟩ hl
  rw [e1, hdf]
  congr 2
  funext j
  simp [f_av, ht2, hI]
theorem Zv.anewarr {t N idx : Nat} {v : Int32} {C : String} (hC : Fc G M d mc ms) (hdg : decode M.2.1 pc = .ok (.anewarray idx, 3)) (hw : Cond.classLink M.1.cls idx C ∈ f_T) (ha : C ∈ f_ao) (ht : ∀ ta, (f_tys ta)[t]? = some (ta t, .object C)) (ht2 : 2 ≤ t) (hs : f_shp n = .inl (t, N)) (hv : v = nI N) (hN : N * 4 ≤ 536870912) (hP : ∀ j, P n j = 0) (hc1 : cells + 1 ≤ mc) (hs1 : slots + N ≤ ms) (kk : Zv G Q (n + 1) (cells + 1) (slots + N) (pc + 3) lv (rf (n + 1) :: st) I P) : Zv G Q n cells slots pc lv (.inr v :: st) I P := by
  subst hv
  obtain ⟨p, l, e, R, s, m, args, below, meth, c, D, ta, b, nL⟩ := G
  intro H locs ls hW hS hl
  obtain ⟨hx, hb, hml, hown, hts, hlk, hrt, hnm, hK, hsz, hnL, hfr, hlo, hce, hsl⟩ := hC
  have hcl : (nI N).toNatClampNeg = N := nI_clamp (by omega)
  refine W.anew (n := nI N) hx hb hown (hts _ hw) (va_AO.use (hK.2.2.1 C ha)) rfl hdg rfl (nI_pos (by omega)) (by rw [hcl]; exact hN) (by omega) (by rw [hcl]; omega) fun cA kA comp f1 f2 f3 f4 => ?_
  rw [hcl]
  obtain ⟨kA', comp', k1, k2, k3, k4⟩ := (hK.1.2 t _ (ht ta)).2
  have hcA : cA = ta t := Option.some.inj (f1.symm.trans k4)
  subst hcA
  generalize hH1 : H.push ({ cls := ta t, slots := Array.replicate N .null, vm := .none } : Cell) = H1
  have z1 : H1.size = b + n + 1 := by rw [← hH1, Array.size_push, hW.1]
  have e1 : H1[b + n]? = some (arrV (ta t) N (fun _ => .null)) := by rw [← hH1, ← hW.1, Array.getElem?_push_size, ← arrV_new]
  have o1 : ∀ q : Nat, q < b + n → H1[q]? = H[q]? := fun q hq => by rw [← hH1, Array.getElem?_push, if_neg (by rw [hW.1]; exact Nat.ne_of_lt hq)]
  have hz : H.size = b + n := hW.1
  have := kk H1 locs ls (f_W_push hW z1 o1 (f_arr_at hs (by
    rw [e1]
    congr 2
    funext j
    simp [f_av, Nat.not_lt.mpr ht2, hP, f_v]))) ⟨Nat.le_trans hS.1 (by rw [z1, hW.1]; omega), fun q h1 h2 => (o1 q (by have := hS.1; rw [hW.1] at this; omega)).trans (hS.2.1 q h1 h2), hS.2.2⟩ hl
  rw [hz]
  exact this
theorem Zv.oinit {idx k : Nat} (hC : Fc G M (d + 1) mc ms) (hdg : decode M.2.1 pc = .ok (.invokespecial idx, 3)) (hw : Cond.methodLink M.1.cls idx Lib.objectInit ∈ f_T) (hw2 : Cond.instanceMethod Lib.objectInit ∈ f_T) (hw3 : Cond.code Lib.objectInit ⟨#[0xb1]⟩ 1 none ∈ f_T) (hst : st.length ≤ 8) (kk : Zv G Q n cells slots (pc + 3) lv st I P) : Zv G Q n cells slots pc lv (rf (k + 1) :: st) I P := by
  obtain ⟨p, l, e, R, s, m, args, below, meth, c, D, ta, b, nL⟩ := G
  intro H locs ls hW hS hl
  obtain ⟨hx, hb, hml, hown, hts, hlk, hrt, hnm, hK, hsz, hnL, hfr, hlo, hce, hsl⟩ := hC
  refine W.objInit hx hb hown (hts _ hw) (hts _ hw2) (hts _ hw3) rfl (by rw [hml]; exact hl.1) rfl hdg (by omega) ?_ (kk H locs ls hW hS hl)
  have e1 := f_cat_sum b st
  have e2 : 2 * (F0 m pc ls ((rf (k + 1) :: st).map (f_v b))).monitorRoom + ((st.map (f_v b)).map fun v => v.category).sum ≤ 8 := lv_room (by rw [e1]; exact hst)
  omega
/-! returns -/
theorem Zv.iret {K : Option Fs → Fm → Fr → Prop} {v : Int32} (hC : Fc G M d mc ms) (hr : M.2.2.2 = some .int) (hdg : decode M.2.1 pc = .ok (.ireturn, 1)) (hc1 : cells ≤ mc) (hs1 : slots ≤ ms) (hK : K (some (.inr v)) I P) : Zv G (f_R G K n mc ms) n cells slots pc lv [.inr v] I P := by
  obtain ⟨p, l, e, R, s, m, args, below, meth, c, D, ta, b, nL⟩ := G
  intro H locs ls hW hS hl
  obtain ⟨hx, hb, hml, hown, hts, hlk, hrt, hnm, hK', hsz, hnL, hfr, hlo, hce, hsl⟩ := hC
  refine W.widen hc1 hs1 ?_
  exact W.iret (v := v) hx hb (hrt.trans hr) (fun t ht hWm => ⟨some (.inr v), I, P, rfl, hK, by rw [ht]; exact hW, fun q hq => by rw [ht]; exact hS.2.1 q (Nat.lt_of_lt_of_le hq hsz) (Nat.not_le.mpr hq)⟩) hS.2.2 hdg
theorem Zv.zret {K : Option Fs → Fm → Fr → Prop} {v : Int32} (hC : Fc G M d mc ms) (hr : M.2.2.2 = some .boolean) (hdg : decode M.2.1 pc = .ok (.ireturn, 1)) (hnr : narrow .boolean (.int v) = .int v) (hc1 : cells ≤ mc) (hs1 : slots ≤ ms) (hK : K (some (.inr v)) I P) : Zv G (f_R G K n mc ms) n cells slots pc lv [.inr v] I P := by
  obtain ⟨p, l, e, R, s, m, args, below, meth, c, D, ta, b, nL⟩ := G
  intro H locs ls hW hS hl
  obtain ⟨hx, hb, hml, hown, hts, hlk, hrt, hnm, hK', hsz, hnL, hfr, hlo, hce, hsl⟩ := hC
  refine W.widen hc1 hs1 ?_
  exact W.zret (v := v) hx hb (hrt.trans hr) hnr (fun t ht hWm => ⟨some (.inr v), I, P, rfl, hK, by rw [ht]; exact hW, fun q hq => by rw [ht]; exact hS.2.1 q (Nat.lt_of_lt_of_le hq hsz) (Nat.not_le.mpr hq)⟩) hS.2.2 hdg
theorem Zv.vret {K : Option Fs → Fm → Fr → Prop} (hC : Fc G M d mc ms) (hr : M.2.2.2 = none) (hdg : decode M.2.1 pc = .ok (.return_, 1)) (hc1 : cells ≤ mc) (hs1 : slots ≤ ms) (hK : K none I P) : Zv G (f_R G K n mc ms) n cells slots pc lv [] I P := by
  obtain ⟨p, l, e, R, s, m, args, below, meth, c, D, ta, b, nL⟩ := G
  intro H locs ls hW hS hl
  obtain ⟨hx, hb, hml, hown, hts, hlk, hrt, hnm, hK', hsz, hnL, hfr, hlo, hce, hsl⟩ := hC
  refine W.widen hc1 hs1 ?_
  exact W.vret hx hb (hrt.trans hr) (fun t ht hWm => ⟨none, I, P, rfl, hK, by rw [ht]; exact hW, fun q hq => by rw [ht]; exact hS.2.1 q (Nat.lt_of_lt_of_le hq hsz) (Nat.not_le.mpr hq)⟩) hS.2.2 hdg
end FR
end
section
theorem f_K_same {D : va_G} {ta : Nat → ClassId} {b : Nat} {u U : State} (h : f_K D ta b u) (hv : u.vm = U.vm) (hh : U.heap = u.heap) : f_K D ta b U := by
  have ha : u.vm.Alike U.vm := hv ▸ Vm.Alike.refl u.vm
  obtain ⟨h1, h2, h3, t, h4, h5, h6⟩ := h
  refine ⟨va_K.moved ha h1, fun w hw => va_Nw.same (f_N_on hw) hv (h2 w hw), fun C hC => va_AO.moved ha (h3 C hC), t, ?_, ?_, h6⟩
  · rw [hh]; exact h4.moved ha
  · rw [hh]; exact h5.moved ha
theorem f_run {p : Program} {l : Launch} {e : Env} {R : Room} {s : State} {m : MethodId} {args a : Array Value} {below : List Frame} {meth : Method} {c : Code} {D : va_G} {ta : Nat → ClassId} {b nL n n' cells slots mc' ms' pc : Nat} {H : Heap} {locs : List Loc} {ls : Array Slot} {st0 : List Value} {rest : List Fs} {lv : Fl} {Q : State → Prop} {K : Option Fs → Fm → Fr → Prop}
    (hr : va_Run p l e R s m args below meth c H locs cells slots mc' ms' (F0 m pc ls st0) (rest.map (f_v b)) (f_Q D ta b n' K a) (fun q => b ≤ q)) (hH : H.size = b + n) (hnn : n ≤ n') (hS : va_S (fun q => b ≤ q) s.heap H locs) (hsz : b ≤ s.heap.size) (hl : lv_has ls nL (f_lv b lv))
    (hK : ∀ v I P, K v I P → Zv (p, l, e, R, s, m, args, below, meth, c, D, ta, b, nL) Q n' (cells + mc') (slots + ms') (pc + 3) lv (v.toList ++ rest) I P) : W p l e R s m args below meth c H locs cells slots Q (F0 m pc ls st0) := by
  intro T hT X
  obtain ⟨v, st₀, t, T', L, h0, X', hL, e1, e2, ⟨v', I', P', hv, hk, hW', hq⟩, st⟩ := hr T hT X
  cases hv
  have hS' : va_S (fun q => b ≤ q) s.heap T'.heap (locs ++ L) := by
    refine ⟨Nat.le_trans hS.1 (by rw [e1, hW'.1, hH]; omega), fun q h1 h2 => ?_, fun q hq => ?_⟩
    · rw [e1, hq q (Nat.not_le.mp h2), h0]
      exact hS.2.1 q h1 h2
    · rcases List.mem_append.mp hq with h | h
      · exact hS.2.2 q h
      · exact hL q h
  obtain ⟨t2, a1, b1⟩ := hK v' I' P' hk T'.heap (locs ++ L) ls (by rw [e1]; exact hW') hS' hl T' rfl X'
  refine ⟨t2, st t2 ?_, b1⟩
  cases v' <;> exact a1
section FCall
variable {G : Fx} {Q : State → Prop} {M M' : Fy} {d' mc ms mc' ms' n n' cells slots pc idx : Nat} {lv : Fl} {st as rest : List Fs} {I : Fm} {P : Fr}
theorem Zv.callV {k ci : Nat} (hC : Fc G M (d' + 1) mc ms) (hdg : decode M.2.1 pc = .ok (.invokevirtual idx, 3)) (hL : f_LM M.1.cls idx M'.1) (hM : f_MV M' as.length) (hk : f_shp k = .inr ci) (hci : (f_cl[ci]?).map (fun r => r.1) = some M'.1.cls) (hkn : k < n) (hr8 : rest.length ≤ 8) (hst : st = as.reverse ++ rf (k + 1) :: rest) (hnn : n ≤ n') (hf : cells + mc' ≤ mc ∧ slots + ms' ≤ ms) (kk : Fk d' M' n n' mc' ms' (rf (k + 1) :: as) I P (fun v I' P' => Zv G Q n' (cells + mc') (slots + ms') (pc + 3) lv (v.toList ++ rest) I' P')) : Zv G Q n cells slots pc lv st I P := by
  subst hst
  obtain ⟨y, cc', mL', ret'⟩ := M'
  obtain ⟨p, l, e, R, s, m, args, below, meth, c, D, ta, b, nL⟩ := G
  intro H locs ls hW hS hl
  obtain ⟨hx, hb, hml, hown, hts, hlk, hrt, hnm, hK, hsz, hnL, hfr, hlo, hce, hsl⟩ := hC
  have hMet := kk l D ta b
  obtain ⟨⟨hcode, hini, hd, hml'⟩, hinst, hsel⟩ := hM
  have hgood : GoodIn f_T (f_ws (y, cc', mL', ret')) := fun w hw => by
    rcases List.mem_cons.mp hw with rfl | h
    · exact f_T_good hcode
    · exact f_T_good h
  have hR : (f_rm d' mc' ms').frames + 1 ≤ R.frames ∧ 8 + (mL' + 11) + (f_rm d' mc' ms').locals ≤ R.locals := ⟨hfr, by
    show 8 + (mL' + 11) + 40 * d' ≤ R.locals
    have : mL' ≤ 21 := hml'
    omega⟩
  have hfs : cells + mc' ≤ R.cells ∧ slots + ms' ≤ R.slots := ⟨by omega, by omega⟩
  have hroom : 2 * (F0 m pc ls ((as.reverse ++ rf (k + 1) :: rest).map (f_v b))).monitorRoom + ((rest.map (f_v b)).map fun v => v.category).sum ≤ 8 := lv_room (by rw [f_cat_sum]; exact hr8)
  have hblind : FrameBlind (va_Pc ((rf (k + 1) :: as).map (f_v b)) (fun U => f_W D ta b n I P U.heap ∧ f_K D ta b U)) := fun a U g mk q => ⟨q.1, q.2.1, f_K_same q.2.2 rfl rfl⟩
  have hpre : ∀ U : State, U.heap = H → s.WarmedH U.vm → va_Pc ((rf (k + 1) :: as).map (f_v b)) (fun U => f_W D ta b n I P U.heap ∧ f_K D ta b U) ((rf (k + 1) :: as).map (f_v b)).toArray U := fun U hU hWm => ⟨rfl, by rw [hU]; exact hW, f_K_moved hK hWm hsz (fun q hq => by rw [hU]; exact hS.2.1 q (Nat.lt_of_lt_of_le hq hsz) (Nat.not_le.mpr hq))⟩
  have hrecv : ∃ cellB : Cell, H[b + k]? = some cellB ∧ cellB.vm.isStatics = false ∧ s.vm.findClass y.cls = some cellB.cls := by
    obtain ⟨r, h1, cell, g1, g2, g3, -⟩ := f_at_obj (hW.2 k hkn) hk
    have e : r.1 = y.cls := by rw [h1] at hci; exact Option.some.inj hci
    exact ⟨cell, g1, by rw [g3]; rfl, by rw [g2, ← e]; exact (hK.1.1 ci r h1).2.1⟩
  have hstk : (F0 m pc ls ((as.reverse ++ rf (k + 1) :: rest).map (f_v b))).stack = (as.map (f_v b)).reverse ++ .ref (b + k) :: rest.map (f_v b) := by simp [f_v]
  rcases hL with hL | ⟨host, hL⟩
  · refine f_run (va_runV (As := as.map (f_v b)) (rest := rest.map (f_v b)) (C := y.cls) (b := b + k) (bytes := cc') (maxL := mL') (ret := ret') ⟨hx, hb, hml, hown, hts⟩ hMet (cwV as.length hts ?_ rfl rfl rfl ⟨rfl, hd⟩ hR) ⟨hblind, hrecv, hpre⟩ rfl (by simp) hl.1 hstk hroom hdg hfs) hW.1 hnn hS hsz hl (fun v I P h => h)
    intro w hw
    rcases List.mem_append.mp hw with h | h
    · simp only [List.mem_cons, List.not_mem_nil, or_false] at h
      rcases h with rfl | rfl | rfl | rfl
      · exact f_T_good hL
      · exact f_T_good hinst
      · exact f_T_good hsel
      · exact f_T_good hini
    · exact hgood w h
  · exact f_run (va_runVN (As := as.map (f_v b)) (rest := rest.map (f_v b)) (C := y.cls) (b := b + k) (bytes := cc') (maxL := mL') (ret := ret') ⟨hx, hb, hml, hown, hts⟩ hMet ⟨va_cnB as.length hts hgood rfl rfl rfl (hK.2.1 _ hL) (hts _ hini) hd hR, hts _ hinst, hts _ hsel⟩ ⟨hblind, hrecv, hpre⟩ rfl (by simp) hl.1 hstk hroom hdg hfs) hW.1 hnn hS hsz hl (fun v I P h => h)
theorem Zv.callS (hC : Fc G M (d' + 1) mc ms) (hdg : decode M.2.1 pc = .ok (.invokestatic idx, 3)) (hL : f_LM M.1.cls idx M'.1) (hM : f_MS M' as.length) (hr8 : rest.length ≤ 8) (hst : st = as.reverse ++ rest) (hnn : n ≤ n') (hf : cells + mc' ≤ mc ∧ slots + ms' ≤ ms) (kk : Fk d' M' n n' mc' ms' as I P (fun v I' P' => Zv G Q n' (cells + mc') (slots + ms') (pc + 3) lv (v.toList ++ rest) I' P')) : Zv G Q n cells slots pc lv st I P := by
  subst hst
  obtain ⟨y, cc', mL', ret'⟩ := M'
  obtain ⟨p, l, e, R, s, m, args, below, meth, c, D, ta, b, nL⟩ := G
  intro H locs ls hW hS hl
  obtain ⟨hx, hb, hml, hown, hts, hlk, hrt, hnm, hK, hsz, hnL, hfr, hlo, hce, hsl⟩ := hC
  have hMet := kk l D ta b
  obtain ⟨⟨hcode, hini, hd, hml'⟩, hstat⟩ := hM
  have hgood : GoodIn f_T (f_ws (y, cc', mL', ret')) := fun w hw => by
    rcases List.mem_cons.mp hw with rfl | h
    · exact f_T_good hcode
    · exact f_T_good h
  have hR : (f_rm d' mc' ms').frames + 1 ≤ R.frames ∧ 8 + (mL' + 11) + (f_rm d' mc' ms').locals ≤ R.locals := ⟨hfr, by
    show 8 + (mL' + 11) + 40 * d' ≤ R.locals
    have : mL' ≤ 21 := hml'
    omega⟩
  have hfs : cells + mc' ≤ R.cells ∧ slots + ms' ≤ R.slots := ⟨by omega, by omega⟩
  have hroom : 2 * (F0 m pc ls ((as.reverse ++ rest).map (f_v b))).monitorRoom + ((rest.map (f_v b)).map fun v => v.category).sum ≤ 8 := lv_room (by rw [f_cat_sum]; exact hr8)
  have hblind : FrameBlind (va_Pc (as.map (f_v b)) (fun U => f_W D ta b n I P U.heap ∧ f_K D ta b U)) := fun a U g mk q => ⟨q.1, q.2.1, f_K_same q.2.2 rfl rfl⟩
  have hpre : ∀ U : State, U.heap = H → s.WarmedH U.vm → va_Pc (as.map (f_v b)) (fun U => f_W D ta b n I P U.heap ∧ f_K D ta b U) (as.map (f_v b)).toArray U := fun U hU hWm => ⟨rfl, by rw [hU]; exact hW, f_K_moved hK hWm hsz (fun q hq => by rw [hU]; exact hS.2.1 q (Nat.lt_of_lt_of_le hq hsz) (Nat.not_le.mpr hq))⟩
  have hstk : (F0 m pc ls ((as.reverse ++ rest).map (f_v b))).stack = (as.map (f_v b)).reverse ++ rest.map (f_v b) := by simp
  rcases hL with hL | ⟨host, hL⟩
  · refine f_run (va_runS (As := as.map (f_v b)) (rest := rest.map (f_v b)) (bytes := cc') (maxL := mL') (ret := ret') ⟨hx, hb, hml, hown, hts⟩ hMet (va_cwS as.length hts ?_ rfl rfl rfl hd hR) ⟨hblind, hpre⟩ rfl (by simp) hl.1 hstk hroom hdg hfs) hW.1 hnn hS hsz hl (fun v I P h => h)
    intro w hw
    rcases List.mem_append.mp hw with h | h
    · simp only [List.mem_cons, List.not_mem_nil, or_false] at h
      rcases h with rfl | rfl | rfl
      · exact f_T_good hL
      · exact f_T_good hstat
      · exact f_T_good hini
    · exact hgood w h
  · exact f_run (va_runSN (As := as.map (f_v b)) (rest := rest.map (f_v b)) (bytes := cc') (maxL := mL') (ret := ret') ⟨hx, hb, hml, hown, hts⟩ hMet ⟨va_cnB as.length hts hgood rfl rfl rfl (hK.2.1 _ hL) (hts _ hini) hd hR, hts _ hstat, trivial⟩ ⟨hblind, hpre⟩ rfl (by simp) hl.1 hstk hroom hdg hfs) hW.1 hnn hS hsz hl (fun v I P h => h)
theorem Zv.callI {k : Nat} (hC : Fc G M (d' + 1) mc ms) (hdg : decode M.2.1 pc = .ok (.invokespecial idx, 3)) (hL : f_LM M.1.cls idx M'.1) (hM : f_MI M' as.length) (hr8 : rest.length ≤ 8) (hst : st = as.reverse ++ rf (k + 1) :: rest) (hnn : n ≤ n') (hf : cells + mc' ≤ mc ∧ slots + ms' ≤ ms) (kk : Fk d' M' n n' mc' ms' (rf (k + 1) :: as) I P (fun v I' P' => Zv G Q n' (cells + mc') (slots + ms') (pc + 3) lv (v.toList ++ rest) I' P')) : Zv G Q n cells slots pc lv st I P := by
  subst hst
  obtain ⟨y, cc', mL', ret'⟩ := M'
  obtain ⟨p, l, e, R, s, m, args, below, meth, c, D, ta, b, nL⟩ := G
  intro H locs ls hW hS hl
  obtain ⟨hx, hb, hml, hown, hts, hlk, hrt, hnm, hK, hsz, hnL, hfr, hlo, hce, hsl⟩ := hC
  have hMet := kk l D ta b
  obtain ⟨⟨hcode, hini, hd, hml'⟩, hy1, hret, hinst⟩ := hM
  dsimp only at hret hy1 hcode hini hd hml' hinst hMet
  subst hret
  have hgood : GoodIn f_T (f_ws (y, cc', mL', none)) := fun w hw => by
    rcases List.mem_cons.mp hw with rfl | h
    · exact f_T_good hcode
    · exact f_T_good h
  have hR : (f_rm d' mc' ms').frames + 1 ≤ R.frames ∧ 8 + (mL' + 11) + (f_rm d' mc' ms').locals ≤ R.locals := ⟨hfr, by
    show 8 + (mL' + 11) + 40 * d' ≤ R.locals
    have : mL' ≤ 21 := hml'
    omega⟩
  have hfs : cells + mc' ≤ R.cells ∧ slots + ms' ≤ R.slots := ⟨by omega, by omega⟩
  have hroom : 2 * (F0 m pc ls ((as.reverse ++ rf (k + 1) :: rest).map (f_v b))).monitorRoom + ((rest.map (f_v b)).map fun v => v.category).sum ≤ 8 := lv_room (by rw [f_cat_sum]; exact hr8)
  have hblind : FrameBlind (va_Pc ((rf (k + 1) :: as).map (f_v b)) (fun U => f_W D ta b n I P U.heap ∧ f_K D ta b U)) := fun a U g mk q => ⟨q.1, q.2.1, f_K_same q.2.2 rfl rfl⟩
  have hpre : ∀ U : State, U.heap = H → s.WarmedH U.vm → va_Pc ((rf (k + 1) :: as).map (f_v b)) (fun U => f_W D ta b n I P U.heap ∧ f_K D ta b U) ((rf (k + 1) :: as).map (f_v b)).toArray U := fun U hU hWm => ⟨rfl, by rw [hU]; exact hW, f_K_moved hK hWm hsz (fun q hq => by rw [hU]; exact hS.2.1 q (Nat.lt_of_lt_of_le hq hsz) (Nat.not_le.mpr hq))⟩
  have hstk : (F0 m pc ls ((as.reverse ++ rf (k + 1) :: rest).map (f_v b))).stack = (as.map (f_v b)).reverse ++ .ref (b + k) :: rest.map (f_v b) := by simp [f_v]
  rcases hL with hL | ⟨host, hL⟩
  · exact f_run (va_runI (As := as.map (f_v b)) (rest := rest.map (f_v b)) (b := b + k) (bytes := cc') (maxL := mL') ⟨hx, hb, hml, hown, hts⟩ hMet (cwI as.length hts hgood rfl rfl rfl (hts _ hini) (hts _ hL) (hts _ hinst) hy1 hd hR) ⟨hblind, hpre⟩ rfl (by simp) hl.1 hstk hroom hdg hfs) hW.1 hnn hS hsz hl (fun v I P h => h)
  · exact f_run (va_runIN (As := as.map (f_v b)) (rest := rest.map (f_v b)) (b := b + k) (bytes := cc') (maxL := mL') ⟨hx, hb, hml, hown, hts⟩ hMet ⟨va_cnB as.length hts hgood rfl rfl rfl (hK.2.1 _ hL) (hts _ hini) hd hR, hy1, hts _ hinst⟩ ⟨hblind, hpre⟩ rfl (by simp) hl.1 hstk hroom hdg hfs) hW.1 hnn hS hsz hl (fun v I P h => h)
theorem Zv.callV0 {k ci : Nat} (hC : Fc G M (d' + 1) mc ms) (hdg : decode M.2.1 pc = .ok (.invokevirtual idx, 3)) (hL : f_LM M.1.cls idx M'.1) (hM : f_MV M' 0) (hci : (f_cl[ci]?).map (fun r => r.1) = some M'.1.cls) (hr8 : rest.length ≤ 8) (hk : f_shp k = .inr ci) (hkn : k < n) (kk : Fk d' M' n n 0 0 (rf (k + 1) :: []) I P (fun v I' P' => Zv G Q n 0 0 (pc + 3) lv (v.toList ++ rest) I' P')) : Zv G Q n 0 0 pc lv (rf (k + 1) :: rest) I P :=
  Zv.callV (as := []) (rest := rest) (mc' := 0) (ms' := 0) hC hdg hL hM hk hci hkn hr8 rfl (Nat.le_refl _) ⟨Nat.zero_le _, Nat.zero_le _⟩ kk
theorem Zv.callV1 {k ci : Nat} {a1 : Fs} (hC : Fc G M (d' + 1) mc ms) (hdg : decode M.2.1 pc = .ok (.invokevirtual idx, 3)) (hL : f_LM M.1.cls idx M'.1) (hM : f_MV M' 1) (hci : (f_cl[ci]?).map (fun r => r.1) = some M'.1.cls) (hr8 : rest.length ≤ 8) (hk : f_shp k = .inr ci) (hkn : k < n) (kk : Fk d' M' n n 0 0 (rf (k + 1) :: [a1]) I P (fun v I' P' => Zv G Q n 0 0 (pc + 3) lv (v.toList ++ rest) I' P')) : Zv G Q n 0 0 pc lv (a1 :: rf (k + 1) :: rest) I P :=
  Zv.callV (as := [a1]) (rest := rest) (mc' := 0) (ms' := 0) hC hdg hL hM hk hci hkn hr8 rfl (Nat.le_refl _) ⟨Nat.zero_le _, Nat.zero_le _⟩ kk
theorem Zv.callS1 {a1 : Fs} (hC : Fc G M (d' + 1) mc ms) (hdg : decode M.2.1 pc = .ok (.invokestatic idx, 3)) (hL : f_LM M.1.cls idx M'.1) (hM : f_MS M' 1) (hr8 : rest.length ≤ 8) (kk : Fk d' M' n n 0 0 [a1] I P (fun v I' P' => Zv G Q n 0 0 (pc + 3) lv (v.toList ++ rest) I' P')) : Zv G Q n 0 0 pc lv (a1 :: rest) I P :=
  Zv.callS (as := [a1]) (rest := rest) (mc' := 0) (ms' := 0) hC hdg hL hM hr8 rfl (Nat.le_refl _) ⟨Nat.zero_le _, Nat.zero_le _⟩ kk
theorem Zv.callV2 {k ci : Nat} {a1 a2 : Fs} (hC : Fc G M (d' + 1) mc ms) (hdg : decode M.2.1 pc = .ok (.invokevirtual idx, 3)) (hL : f_LM M.1.cls idx M'.1) (hM : f_MV M' 2) (hci : (f_cl[ci]?).map (fun r => r.1) = some M'.1.cls) (hr8 : rest.length ≤ 8) (hk : f_shp k = .inr ci) (hkn : k < n) (kk : Fk d' M' n n 0 0 (rf (k + 1) :: [a1, a2]) I P (fun v I' P' => Zv G Q n 0 0 (pc + 3) lv (v.toList ++ rest) I' P')) : Zv G Q n 0 0 pc lv (a2 :: a1 :: rf (k + 1) :: rest) I P :=
  Zv.callV (as := [a1, a2]) (rest := rest) (mc' := 0) (ms' := 0) hC hdg hL hM hk hci hkn hr8 rfl (Nat.le_refl _) ⟨Nat.zero_le _, Nat.zero_le _⟩ kk
theorem Zv.callS2 {a1 a2 : Fs} (hC : Fc G M (d' + 1) mc ms) (hdg : decode M.2.1 pc = .ok (.invokestatic idx, 3)) (hL : f_LM M.1.cls idx M'.1) (hM : f_MS M' 2) (hr8 : rest.length ≤ 8) (kk : Fk d' M' n n 0 0 [a1, a2] I P (fun v I' P' => Zv G Q n 0 0 (pc + 3) lv (v.toList ++ rest) I' P')) : Zv G Q n 0 0 pc lv (a2 :: a1 :: rest) I P :=
  Zv.callS (as := [a1, a2]) (rest := rest) (mc' := 0) (ms' := 0) hC hdg hL hM hr8 rfl (Nat.le_refl _) ⟨Nat.zero_le _, Nat.zero_le _⟩ kk
theorem Zv.callV3 {k ci : Nat} {a1 a2 a3 : Fs} (hC : Fc G M (d' + 1) mc ms) (hdg : decode M.2.1 pc = .ok (.invokevirtual idx, 3)) (hL : f_LM M.1.cls idx M'.1) (hM : f_MV M' 3) (hci : (f_cl[ci]?).map (fun r => r.1) = some M'.1.cls) (hr8 : rest.length ≤ 8) (hk : f_shp k = .inr ci) (hkn : k < n) (kk : Fk d' M' n n 0 0 (rf (k + 1) :: [a1, a2, a3]) I P (fun v I' P' => Zv G Q n 0 0 (pc + 3) lv (v.toList ++ rest) I' P')) : Zv G Q n 0 0 pc lv (a3 :: a2 :: a1 :: rf (k + 1) :: rest) I P :=
  Zv.callV (as := [a1, a2, a3]) (rest := rest) (mc' := 0) (ms' := 0) hC hdg hL hM hk hci hkn hr8 rfl (Nat.le_refl _) ⟨Nat.zero_le _, Nat.zero_le _⟩ kk
theorem Zv.callS3 {a1 a2 a3 : Fs} (hC : Fc G M (d' + 1) mc ms) (hdg : decode M.2.1 pc = .ok (.invokestatic idx, 3)) (hL : f_LM M.1.cls idx M'.1) (hM : f_MS M' 3) (hr8 : rest.length ≤ 8) (kk : Fk d' M' n n 0 0 [a1, a2, a3] I P (fun v I' P' => Zv G Q n 0 0 (pc + 3) lv (v.toList ++ rest) I' P')) : Zv G Q n 0 0 pc lv (a3 :: a2 :: a1 :: rest) I P :=
  Zv.callS (as := [a1, a2, a3]) (rest := rest) (mc' := 0) (ms' := 0) hC hdg hL hM hr8 rfl (Nat.le_refl _) ⟨Nat.zero_le _, Nat.zero_le _⟩ kk
theorem Zv.callV4 {k ci : Nat} {a1 a2 a3 a4 : Fs} (hC : Fc G M (d' + 1) mc ms) (hdg : decode M.2.1 pc = .ok (.invokevirtual idx, 3)) (hL : f_LM M.1.cls idx M'.1) (hM : f_MV M' 4) (hci : (f_cl[ci]?).map (fun r => r.1) = some M'.1.cls) (hr8 : rest.length ≤ 8) (hk : f_shp k = .inr ci) (hkn : k < n) (kk : Fk d' M' n n 0 0 (rf (k + 1) :: [a1, a2, a3, a4]) I P (fun v I' P' => Zv G Q n 0 0 (pc + 3) lv (v.toList ++ rest) I' P')) : Zv G Q n 0 0 pc lv (a4 :: a3 :: a2 :: a1 :: rf (k + 1) :: rest) I P :=
  Zv.callV (as := [a1, a2, a3, a4]) (rest := rest) (mc' := 0) (ms' := 0) hC hdg hL hM hk hci hkn hr8 rfl (Nat.le_refl _) ⟨Nat.zero_le _, Nat.zero_le _⟩ kk
theorem Zv.callS4 {a1 a2 a3 a4 : Fs} (hC : Fc G M (d' + 1) mc ms) (hdg : decode M.2.1 pc = .ok (.invokestatic idx, 3)) (hL : f_LM M.1.cls idx M'.1) (hM : f_MS M' 4) (hr8 : rest.length ≤ 8) (kk : Fk d' M' n n 0 0 [a1, a2, a3, a4] I P (fun v I' P' => Zv G Q n 0 0 (pc + 3) lv (v.toList ++ rest) I' P')) : Zv G Q n 0 0 pc lv (a4 :: a3 :: a2 :: a1 :: rest) I P :=
  Zv.callS (as := [a1, a2, a3, a4]) (rest := rest) (mc' := 0) (ms' := 0) hC hdg hL hM hr8 rfl (Nat.le_refl _) ⟨Nat.zero_le _, Nat.zero_le _⟩ kk
theorem Zv.callV5 {k ci : Nat} {a1 a2 a3 a4 a5 : Fs} (hC : Fc G M (d' + 1) mc ms) (hdg : decode M.2.1 pc = .ok (.invokevirtual idx, 3)) (hL : f_LM M.1.cls idx M'.1) (hM : f_MV M' 5) (hci : (f_cl[ci]?).map (fun r => r.1) = some M'.1.cls) (hr8 : rest.length ≤ 8) (hk : f_shp k = .inr ci) (hkn : k < n) (kk : Fk d' M' n n 0 0 (rf (k + 1) :: [a1, a2, a3, a4, a5]) I P (fun v I' P' => Zv G Q n 0 0 (pc + 3) lv (v.toList ++ rest) I' P')) : Zv G Q n 0 0 pc lv (a5 :: a4 :: a3 :: a2 :: a1 :: rf (k + 1) :: rest) I P :=
  Zv.callV (as := [a1, a2, a3, a4, a5]) (rest := rest) (mc' := 0) (ms' := 0) hC hdg hL hM hk hci hkn hr8 rfl (Nat.le_refl _) ⟨Nat.zero_le _, Nat.zero_le _⟩ kk
theorem Zv.callS5 {a1 a2 a3 a4 a5 : Fs} (hC : Fc G M (d' + 1) mc ms) (hdg : decode M.2.1 pc = .ok (.invokestatic idx, 3)) (hL : f_LM M.1.cls idx M'.1) (hM : f_MS M' 5) (hr8 : rest.length ≤ 8) (kk : Fk d' M' n n 0 0 [a1, a2, a3, a4, a5] I P (fun v I' P' => Zv G Q n 0 0 (pc + 3) lv (v.toList ++ rest) I' P')) : Zv G Q n 0 0 pc lv (a5 :: a4 :: a3 :: a2 :: a1 :: rest) I P :=
  Zv.callS (as := [a1, a2, a3, a4, a5]) (rest := rest) (mc' := 0) (ms' := 0) hC hdg hL hM hr8 rfl (Nat.le_refl _) ⟨Nat.zero_le _, Nat.zero_le _⟩ kk
end FCall
end
