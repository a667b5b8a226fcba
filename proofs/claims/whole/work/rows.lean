section
-- ===== PART A: goes FIRST, ahead of the names: the tables' words, and 'selects' of the private methods out of them =====
/-- a private method of a class that the tables say can be made, by its rows of tables_1 -/
def lw_okq (q : MethodName × Nat) : Prop := (q.1.cls ≠ "java/lang/invoke/MethodHandle" ∧ q.1.cls ≠ "java/lang/invoke/VarHandle") ∧ Cond.instantiable q.1.cls q.2 ∈ tables_1 ∧ Cond.privateMethod q.1 ∈ tables_1 ∧ Cond.instanceMethod q.1 ∈ tables_1
theorem lw_p0 : lw_okq (⟨"TapeRobotics$Tape", "isInDrive", "()Z"⟩, 8) := ⟨⟨by decide +kernel, by decide +kernel⟩, List.mem_of_getElem? (i := 104) (by decide +kernel), List.mem_of_getElem? (i := 102) (by decide +kernel), List.mem_of_getElem? (i := 103) (by decide +kernel)⟩
theorem lw_p1 : lw_okq (⟨"TapeRobotics$Jobs", "countAt", "(I)I"⟩, 5) := ⟨⟨by decide +kernel, by decide +kernel⟩, List.mem_of_getElem? (i := 27) (by decide +kernel), List.mem_of_getElem? (i := 107) (by decide +kernel), List.mem_of_getElem? (i := 108) (by decide +kernel)⟩
theorem lw_p2 : lw_okq (⟨"TapeRobotics$Jobs", "earliestDeadlineAt", "(I)I"⟩, 5) := ⟨⟨by decide +kernel, by decide +kernel⟩, List.mem_of_getElem? (i := 27) (by decide +kernel), List.mem_of_getElem? (i := 114) (by decide +kernel), List.mem_of_getElem? (i := 115) (by decide +kernel)⟩
theorem lw_p3 : lw_okq (⟨"TapeRobotics", "countWithoutLabels", "()I"⟩, 6) := ⟨⟨by decide +kernel, by decide +kernel⟩, List.mem_of_getElem? (i := 15) (by decide +kernel), List.mem_of_getElem? (i := 130) (by decide +kernel), List.mem_of_getElem? (i := 131) (by decide +kernel)⟩
theorem lw_p4 : lw_okq (⟨"TapeRobotics", "highestSlotWithTape", "()I"⟩, 6) := ⟨⟨by decide +kernel, by decide +kernel⟩, List.mem_of_getElem? (i := 15) (by decide +kernel), List.mem_of_getElem? (i := 134) (by decide +kernel), List.mem_of_getElem? (i := 135) (by decide +kernel)⟩
theorem lw_p5 : lw_okq (⟨"java/lang/Throwable", "fillInStackTrace", "(I)Ljava/lang/Throwable;"⟩, 6) := ⟨⟨by decide +kernel, by decide +kernel⟩, List.mem_of_getElem? (i := 188) (by decide +kernel), List.mem_of_getElem? (i := 186) (by decide +kernel), List.mem_of_getElem? (i := 187) (by decide +kernel)⟩
theorem lw_p6 : lw_okq (⟨"TapeRobotics", "lowestFreeSlot", "()I"⟩, 6) := ⟨⟨by decide +kernel, by decide +kernel⟩, List.mem_of_getElem? (i := 15) (by decide +kernel), List.mem_of_getElem? (i := 235) (by decide +kernel), List.mem_of_getElem? (i := 236) (by decide +kernel)⟩
theorem lw_p7 : lw_okq (⟨"TapeRobotics", "isFree", "(I)Z"⟩, 6) := ⟨⟨by decide +kernel, by decide +kernel⟩, List.mem_of_getElem? (i := 15) (by decide +kernel), List.mem_of_getElem? (i := 239) (by decide +kernel), List.mem_of_getElem? (i := 240) (by decide +kernel)⟩
theorem lw_p8 : lw_okq (⟨"TapeRobotics", "tapeNumbered", "(I)LTapeRobotics$Tape;"⟩, 6) := ⟨⟨by decide +kernel, by decide +kernel⟩, List.mem_of_getElem? (i := 15) (by decide +kernel), List.mem_of_getElem? (i := 286) (by decide +kernel), List.mem_of_getElem? (i := 287) (by decide +kernel)⟩
theorem lw_p9 : lw_okq (⟨"TapeRobotics$Tape", "beginOf", "(I)I"⟩, 8) := ⟨⟨by decide +kernel, by decide +kernel⟩, List.mem_of_getElem? (i := 104) (by decide +kernel), List.mem_of_getElem? (i := 333) (by decide +kernel), List.mem_of_getElem? (i := 334) (by decide +kernel)⟩
theorem lw_p10 : lw_okq (⟨"TapeRobotics$Tape", "places", "()I"⟩, 8) := ⟨⟨by decide +kernel, by decide +kernel⟩, List.mem_of_getElem? (i := 104) (by decide +kernel), List.mem_of_getElem? (i := 345) (by decide +kernel), List.mem_of_getElem? (i := 346) (by decide +kernel)⟩
theorem lw_p11 : lw_okq (⟨"TapeRobotics$Tape", "distanceAlong", "(I)I"⟩, 8) := ⟨⟨by decide +kernel, by decide +kernel⟩, List.mem_of_getElem? (i := 104) (by decide +kernel), List.mem_of_getElem? (i := 350) (by decide +kernel), List.mem_of_getElem? (i := 351) (by decide +kernel)⟩
theorem lw_p12 : lw_okq (⟨"TapeRobotics$Tape", "trackOf", "(I)I"⟩, 8) := ⟨⟨by decide +kernel, by decide +kernel⟩, List.mem_of_getElem? (i := 104) (by decide +kernel), List.mem_of_getElem? (i := 354) (by decide +kernel), List.mem_of_getElem? (i := 355) (by decide +kernel)⟩
theorem lw_p13 : lw_okq (⟨"TapeRobotics", "driveNumbered", "(I)LTapeRobotics$Drive;"⟩, 6) := ⟨⟨by decide +kernel, by decide +kernel⟩, List.mem_of_getElem? (i := 15) (by decide +kernel), List.mem_of_getElem? (i := 408) (by decide +kernel), List.mem_of_getElem? (i := 409) (by decide +kernel)⟩
theorem lw_p14 : lw_okq (⟨"TapeRobotics$Drive", "robotTime", "(I)I"⟩, 7) := ⟨⟨by decide +kernel, by decide +kernel⟩, List.mem_of_getElem? (i := 367) (by decide +kernel), List.mem_of_getElem? (i := 414) (by decide +kernel), List.mem_of_getElem? (i := 415) (by decide +kernel)⟩
theorem lw_p15 : lw_okq (⟨"TapeRobotics$Drive", "spend", "(I)I"⟩, 7) := ⟨⟨by decide +kernel, by decide +kernel⟩, List.mem_of_getElem? (i := 367) (by decide +kernel), List.mem_of_getElem? (i := 421) (by decide +kernel), List.mem_of_getElem? (i := 422) (by decide +kernel)⟩
def lw_privs_1 : List (MethodName × Nat) := [(⟨"TapeRobotics$Tape", "isInDrive", "()Z"⟩, 8), (⟨"TapeRobotics$Jobs", "countAt", "(I)I"⟩, 5), (⟨"TapeRobotics$Jobs", "earliestDeadlineAt", "(I)I"⟩, 5), (⟨"TapeRobotics", "countWithoutLabels", "()I"⟩, 6), (⟨"TapeRobotics", "highestSlotWithTape", "()I"⟩, 6), (⟨"java/lang/Throwable", "fillInStackTrace", "(I)Ljava/lang/Throwable;"⟩, 6), (⟨"TapeRobotics", "lowestFreeSlot", "()I"⟩, 6), (⟨"TapeRobotics", "isFree", "(I)Z"⟩, 6), (⟨"TapeRobotics", "tapeNumbered", "(I)LTapeRobotics$Tape;"⟩, 6), (⟨"TapeRobotics$Tape", "beginOf", "(I)I"⟩, 8), (⟨"TapeRobotics$Tape", "places", "()I"⟩, 8), (⟨"TapeRobotics$Tape", "distanceAlong", "(I)I"⟩, 8), (⟨"TapeRobotics$Tape", "trackOf", "(I)I"⟩, 8), (⟨"TapeRobotics", "driveNumbered", "(I)LTapeRobotics$Drive;"⟩, 6), (⟨"TapeRobotics$Drive", "robotTime", "(I)I"⟩, 7), (⟨"TapeRobotics$Drive", "spend", "(I)I"⟩, 7)]
theorem lw_r1 : ∀ q ∈ lw_privs_1, lw_okq q := List.forall_mem_cons.mpr ⟨lw_p0, List.forall_mem_cons.mpr ⟨lw_p1, List.forall_mem_cons.mpr ⟨lw_p2, List.forall_mem_cons.mpr ⟨lw_p3, List.forall_mem_cons.mpr ⟨lw_p4, List.forall_mem_cons.mpr ⟨lw_p5, List.forall_mem_cons.mpr ⟨lw_p6, List.forall_mem_cons.mpr ⟨lw_p7, List.forall_mem_cons.mpr ⟨lw_p8, List.forall_mem_cons.mpr ⟨lw_p9, List.forall_mem_cons.mpr ⟨lw_p10, List.forall_mem_cons.mpr ⟨lw_p11, List.forall_mem_cons.mpr ⟨lw_p12, List.forall_mem_cons.mpr ⟨lw_p13, List.forall_mem_cons.mpr ⟨lw_p14, List.forall_mem_cons.mpr ⟨lw_p15, fun _ h => absurd h List.not_mem_nil⟩⟩⟩⟩⟩⟩⟩⟩⟩⟩⟩⟩⟩⟩⟩⟩
theorem lw_p16 : lw_okq (⟨"TapeRobotics$Drive", "wayTime", "(LTapeRobotics$Tape;II)I"⟩, 7) := ⟨⟨by decide +kernel, by decide +kernel⟩, List.mem_of_getElem? (i := 367) (by decide +kernel), List.mem_of_getElem? (i := 436) (by decide +kernel), List.mem_of_getElem? (i := 437) (by decide +kernel)⟩
theorem lw_p17 : lw_okq (⟨"TapeRobotics$Drive", "wantsCleaning", "()Z"⟩, 7) := ⟨⟨by decide +kernel, by decide +kernel⟩, List.mem_of_getElem? (i := 367) (by decide +kernel), List.mem_of_getElem? (i := 453) (by decide +kernel), List.mem_of_getElem? (i := 454) (by decide +kernel)⟩
theorem lw_p18 : lw_okq (⟨"TapeRobotics$Tape", "hasRoomFor", "(I)Z"⟩, 8) := ⟨⟨by decide +kernel, by decide +kernel⟩, List.mem_of_getElem? (i := 104) (by decide +kernel), List.mem_of_getElem? (i := 458) (by decide +kernel), List.mem_of_getElem? (i := 459) (by decide +kernel)⟩
theorem lw_p19 : lw_okq (⟨"TapeRobotics$Tape", "append", "(I)I"⟩, 8) := ⟨⟨by decide +kernel, by decide +kernel⟩, List.mem_of_getElem? (i := 104) (by decide +kernel), List.mem_of_getElem? (i := 465) (by decide +kernel), List.mem_of_getElem? (i := 466) (by decide +kernel)⟩
theorem lw_p20 : lw_okq (⟨"TapeRobotics$Drive", "passFile", "(LTapeRobotics$Tape;I)I"⟩, 7) := ⟨⟨by decide +kernel, by decide +kernel⟩, List.mem_of_getElem? (i := 367) (by decide +kernel), List.mem_of_getElem? (i := 472) (by decide +kernel), List.mem_of_getElem? (i := 473) (by decide +kernel)⟩
theorem lw_p21 : lw_okq (⟨"TapeRobotics$Drive", "fileTime", "(LTapeRobotics$Tape;II)I"⟩, 7) := ⟨⟨by decide +kernel, by decide +kernel⟩, List.mem_of_getElem? (i := 367) (by decide +kernel), List.mem_of_getElem? (i := 476) (by decide +kernel), List.mem_of_getElem? (i := 477) (by decide +kernel)⟩
theorem lw_p22 : lw_okq (⟨"TapeRobotics$Tape", "endOf", "(I)I"⟩, 8) := ⟨⟨by decide +kernel, by decide +kernel⟩, List.mem_of_getElem? (i := 104) (by decide +kernel), List.mem_of_getElem? (i := 482) (by decide +kernel), List.mem_of_getElem? (i := 483) (by decide +kernel)⟩
theorem lw_p23 : lw_okq (⟨"TapeRobotics$Jobs", "enter", "(III)I"⟩, 5) := ⟨⟨by decide +kernel, by decide +kernel⟩, List.mem_of_getElem? (i := 27) (by decide +kernel), List.mem_of_getElem? (i := 526) (by decide +kernel), List.mem_of_getElem? (i := 527) (by decide +kernel)⟩
theorem lw_p24 : lw_okq (⟨"TapeRobotics", "measureOrders", "(LTapeRobotics$Drive;)V"⟩, 6) := ⟨⟨by decide +kernel, by decide +kernel⟩, List.mem_of_getElem? (i := 15) (by decide +kernel), List.mem_of_getElem? (i := 545) (by decide +kernel), List.mem_of_getElem? (i := 546) (by decide +kernel)⟩
theorem lw_p25 : lw_okq (⟨"TapeRobotics$Orders", "measure", "(LTapeRobotics$Drive;LTapeRobotics$Tape;LTapeRobotics$Jobs;)V"⟩, 6) := ⟨⟨by decide +kernel, by decide +kernel⟩, List.mem_of_getElem? (i := 52) (by decide +kernel), List.mem_of_getElem? (i := 549) (by decide +kernel), List.mem_of_getElem? (i := 550) (by decide +kernel)⟩
theorem lw_p26 : lw_okq (⟨"TapeRobotics$Jobs", "collectAt", "(I[I)I"⟩, 5) := ⟨⟨by decide +kernel, by decide +kernel⟩, List.mem_of_getElem? (i := 27) (by decide +kernel), List.mem_of_getElem? (i := 553) (by decide +kernel), List.mem_of_getElem? (i := 554) (by decide +kernel)⟩
theorem lw_p27 : lw_okq (⟨"TapeRobotics$Jobs", "fileOf", "(I)I"⟩, 5) := ⟨⟨by decide +kernel, by decide +kernel⟩, List.mem_of_getElem? (i := 27) (by decide +kernel), List.mem_of_getElem? (i := 558) (by decide +kernel), List.mem_of_getElem? (i := 559) (by decide +kernel)⟩
theorem lw_p28 : lw_okq (⟨"TapeRobotics$Orders", "findBest", "()V"⟩, 6) := ⟨⟨by decide +kernel, by decide +kernel⟩, List.mem_of_getElem? (i := 52) (by decide +kernel), List.mem_of_getElem? (i := 565) (by decide +kernel), List.mem_of_getElem? (i := 566) (by decide +kernel)⟩
theorem lw_p29 : lw_okq (⟨"TapeRobotics$Orders", "restBehind", "(II)I"⟩, 6) := ⟨⟨by decide +kernel, by decide +kernel⟩, List.mem_of_getElem? (i := 52) (by decide +kernel), List.mem_of_getElem? (i := 569) (by decide +kernel), List.mem_of_getElem? (i := 570) (by decide +kernel)⟩
theorem lw_p30 : lw_okq (⟨"TapeRobotics$Orders", "bestFollower", "(II)I"⟩, 6) := ⟨⟨by decide +kernel, by decide +kernel⟩, List.mem_of_getElem? (i := 52) (by decide +kernel), List.mem_of_getElem? (i := 573) (by decide +kernel), List.mem_of_getElem? (i := 574) (by decide +kernel)⟩
theorem lw_p31 : lw_okq (⟨"TapeRobotics$Orders", "restThrough", "(III)I"⟩, 6) := ⟨⟨by decide +kernel, by decide +kernel⟩, List.mem_of_getElem? (i := 52) (by decide +kernel), List.mem_of_getElem? (i := 577) (by decide +kernel), List.mem_of_getElem? (i := 578) (by decide +kernel)⟩
def lw_privs_2 : List (MethodName × Nat) := [(⟨"TapeRobotics$Drive", "wayTime", "(LTapeRobotics$Tape;II)I"⟩, 7), (⟨"TapeRobotics$Drive", "wantsCleaning", "()Z"⟩, 7), (⟨"TapeRobotics$Tape", "hasRoomFor", "(I)Z"⟩, 8), (⟨"TapeRobotics$Tape", "append", "(I)I"⟩, 8), (⟨"TapeRobotics$Drive", "passFile", "(LTapeRobotics$Tape;I)I"⟩, 7), (⟨"TapeRobotics$Drive", "fileTime", "(LTapeRobotics$Tape;II)I"⟩, 7), (⟨"TapeRobotics$Tape", "endOf", "(I)I"⟩, 8), (⟨"TapeRobotics$Jobs", "enter", "(III)I"⟩, 5), (⟨"TapeRobotics", "measureOrders", "(LTapeRobotics$Drive;)V"⟩, 6), (⟨"TapeRobotics$Orders", "measure", "(LTapeRobotics$Drive;LTapeRobotics$Tape;LTapeRobotics$Jobs;)V"⟩, 6), (⟨"TapeRobotics$Jobs", "collectAt", "(I[I)I"⟩, 5), (⟨"TapeRobotics$Jobs", "fileOf", "(I)I"⟩, 5), (⟨"TapeRobotics$Orders", "findBest", "()V"⟩, 6), (⟨"TapeRobotics$Orders", "restBehind", "(II)I"⟩, 6), (⟨"TapeRobotics$Orders", "bestFollower", "(II)I"⟩, 6), (⟨"TapeRobotics$Orders", "restThrough", "(III)I"⟩, 6)]
theorem lw_r2 : ∀ q ∈ lw_privs_2, lw_okq q := List.forall_mem_cons.mpr ⟨lw_p16, List.forall_mem_cons.mpr ⟨lw_p17, List.forall_mem_cons.mpr ⟨lw_p18, List.forall_mem_cons.mpr ⟨lw_p19, List.forall_mem_cons.mpr ⟨lw_p20, List.forall_mem_cons.mpr ⟨lw_p21, List.forall_mem_cons.mpr ⟨lw_p22, List.forall_mem_cons.mpr ⟨lw_p23, List.forall_mem_cons.mpr ⟨lw_p24, List.forall_mem_cons.mpr ⟨lw_p25, List.forall_mem_cons.mpr ⟨lw_p26, List.forall_mem_cons.mpr ⟨lw_p27, List.forall_mem_cons.mpr ⟨lw_p28, List.forall_mem_cons.mpr ⟨lw_p29, List.forall_mem_cons.mpr ⟨lw_p30, List.forall_mem_cons.mpr ⟨lw_p31, fun _ h => absurd h List.not_mem_nil⟩⟩⟩⟩⟩⟩⟩⟩⟩⟩⟩⟩⟩⟩⟩⟩
theorem lw_p32 : lw_okq (⟨"TapeRobotics$Orders", "leg", "(II)I"⟩, 6) := ⟨⟨by decide +kernel, by decide +kernel⟩, List.mem_of_getElem? (i := 52) (by decide +kernel), List.mem_of_getElem? (i := 581) (by decide +kernel), List.mem_of_getElem? (i := 582) (by decide +kernel)⟩
theorem lw_p33 : lw_okq (⟨"TapeRobotics$Orders", "timeOf", "([II)I"⟩, 6) := ⟨⟨by decide +kernel, by decide +kernel⟩, List.mem_of_getElem? (i := 52) (by decide +kernel), List.mem_of_getElem? (i := 585) (by decide +kernel), List.mem_of_getElem? (i := 586) (by decide +kernel)⟩
theorem lw_p34 : lw_okq (⟨"TapeRobotics$Orders", "bestJobAt", "(I)I"⟩, 6) := ⟨⟨by decide +kernel, by decide +kernel⟩, List.mem_of_getElem? (i := 52) (by decide +kernel), List.mem_of_getElem? (i := 597) (by decide +kernel), List.mem_of_getElem? (i := 598) (by decide +kernel)⟩
theorem lw_p35 : lw_okq (⟨"TapeRobotics$Orders", "timeByInsertion", "()I"⟩, 6) := ⟨⟨by decide +kernel, by decide +kernel⟩, List.mem_of_getElem? (i := 52) (by decide +kernel), List.mem_of_getElem? (i := 608) (by decide +kernel), List.mem_of_getElem? (i := 609) (by decide +kernel)⟩
theorem lw_p36 : lw_okq (⟨"TapeRobotics$Orders", "insert", "(I)V"⟩, 6) := ⟨⟨by decide +kernel, by decide +kernel⟩, List.mem_of_getElem? (i := 52) (by decide +kernel), List.mem_of_getElem? (i := 612) (by decide +kernel), List.mem_of_getElem? (i := 613) (by decide +kernel)⟩
theorem lw_p37 : lw_okq (⟨"TapeRobotics$Orders", "swap", "(II)V"⟩, 6) := ⟨⟨by decide +kernel, by decide +kernel⟩, List.mem_of_getElem? (i := 52) (by decide +kernel), List.mem_of_getElem? (i := 617) (by decide +kernel), List.mem_of_getElem? (i := 618) (by decide +kernel)⟩
theorem lw_p38 : lw_okq (⟨"TapeRobotics$Orders", "timeByTrying", "()I"⟩, 6) := ⟨⟨by decide +kernel, by decide +kernel⟩, List.mem_of_getElem? (i := 52) (by decide +kernel), List.mem_of_getElem? (i := 628) (by decide +kernel), List.mem_of_getElem? (i := 629) (by decide +kernel)⟩
theorem lw_p39 : lw_okq (⟨"TapeRobotics$Orders", "advanceOrder", "()Z"⟩, 6) := ⟨⟨by decide +kernel, by decide +kernel⟩, List.mem_of_getElem? (i := 52) (by decide +kernel), List.mem_of_getElem? (i := 632) (by decide +kernel), List.mem_of_getElem? (i := 633) (by decide +kernel)⟩
theorem lw_p40 : lw_okq (⟨"TapeRobotics$Jobs", "finish", "(I)V"⟩, 5) := ⟨⟨by decide +kernel, by decide +kernel⟩, List.mem_of_getElem? (i := 27) (by decide +kernel), List.mem_of_getElem? (i := 645) (by decide +kernel), List.mem_of_getElem? (i := 646) (by decide +kernel)⟩
theorem lw_p41 : lw_okq (⟨"TapeRobotics$Jobs", "deadlineOf", "(I)I"⟩, 5) := ⟨⟨by decide +kernel, by decide +kernel⟩, List.mem_of_getElem? (i := 27) (by decide +kernel), List.mem_of_getElem? (i := 649) (by decide +kernel), List.mem_of_getElem? (i := 650) (by decide +kernel)⟩
theorem lw_p42 : lw_okq (⟨"TapeRoboticsModel", "mayBoth", "(ZZ)Z"⟩, 26) := ⟨⟨by decide +kernel, by decide +kernel⟩, List.mem_of_getElem? (i := 661) (by decide +kernel), List.mem_of_getElem? (i := 758) (by decide +kernel), List.mem_of_getElem? (i := 759) (by decide +kernel)⟩
theorem lw_p43 : lw_okq (⟨"TapeRoboticsModel", "isFree", "(I)Z"⟩, 26) := ⟨⟨by decide +kernel, by decide +kernel⟩, List.mem_of_getElem? (i := 661) (by decide +kernel), List.mem_of_getElem? (i := 762) (by decide +kernel), List.mem_of_getElem? (i := 763) (by decide +kernel)⟩
theorem lw_p44 : lw_okq (⟨"TapeRoboticsModel", "isTape", "(I)Z"⟩, 26) := ⟨⟨by decide +kernel, by decide +kernel⟩, List.mem_of_getElem? (i := 661) (by decide +kernel), List.mem_of_getElem? (i := 770) (by decide +kernel), List.mem_of_getElem? (i := 771) (by decide +kernel)⟩
theorem lw_p45 : lw_okq (⟨"TapeRoboticsModel", "may", "(Z)Z"⟩, 26) := ⟨⟨by decide +kernel, by decide +kernel⟩, List.mem_of_getElem? (i := 661) (by decide +kernel), List.mem_of_getElem? (i := 778) (by decide +kernel), List.mem_of_getElem? (i := 779) (by decide +kernel)⟩
theorem lw_p46 : lw_okq (⟨"TapeRoboticsModel", "isFile", "(II)Z"⟩, 26) := ⟨⟨by decide +kernel, by decide +kernel⟩, List.mem_of_getElem? (i := 661) (by decide +kernel), List.mem_of_getElem? (i := 790) (by decide +kernel), List.mem_of_getElem? (i := 791) (by decide +kernel)⟩
theorem lw_p47 : lw_okq (⟨"TapeRoboticsModel", "alongOf", "(II)I"⟩, 26) := ⟨⟨by decide +kernel, by decide +kernel⟩, List.mem_of_getElem? (i := 661) (by decide +kernel), List.mem_of_getElem? (i := 798) (by decide +kernel), List.mem_of_getElem? (i := 799) (by decide +kernel)⟩
def lw_privs_3 : List (MethodName × Nat) := [(⟨"TapeRobotics$Orders", "leg", "(II)I"⟩, 6), (⟨"TapeRobotics$Orders", "timeOf", "([II)I"⟩, 6), (⟨"TapeRobotics$Orders", "bestJobAt", "(I)I"⟩, 6), (⟨"TapeRobotics$Orders", "timeByInsertion", "()I"⟩, 6), (⟨"TapeRobotics$Orders", "insert", "(I)V"⟩, 6), (⟨"TapeRobotics$Orders", "swap", "(II)V"⟩, 6), (⟨"TapeRobotics$Orders", "timeByTrying", "()I"⟩, 6), (⟨"TapeRobotics$Orders", "advanceOrder", "()Z"⟩, 6), (⟨"TapeRobotics$Jobs", "finish", "(I)V"⟩, 5), (⟨"TapeRobotics$Jobs", "deadlineOf", "(I)I"⟩, 5), (⟨"TapeRoboticsModel", "mayBoth", "(ZZ)Z"⟩, 26), (⟨"TapeRoboticsModel", "isFree", "(I)Z"⟩, 26), (⟨"TapeRoboticsModel", "isTape", "(I)Z"⟩, 26), (⟨"TapeRoboticsModel", "may", "(Z)Z"⟩, 26), (⟨"TapeRoboticsModel", "isFile", "(II)Z"⟩, 26), (⟨"TapeRoboticsModel", "alongOf", "(II)I"⟩, 26)]
theorem lw_r3 : ∀ q ∈ lw_privs_3, lw_okq q := List.forall_mem_cons.mpr ⟨lw_p32, List.forall_mem_cons.mpr ⟨lw_p33, List.forall_mem_cons.mpr ⟨lw_p34, List.forall_mem_cons.mpr ⟨lw_p35, List.forall_mem_cons.mpr ⟨lw_p36, List.forall_mem_cons.mpr ⟨lw_p37, List.forall_mem_cons.mpr ⟨lw_p38, List.forall_mem_cons.mpr ⟨lw_p39, List.forall_mem_cons.mpr ⟨lw_p40, List.forall_mem_cons.mpr ⟨lw_p41, List.forall_mem_cons.mpr ⟨lw_p42, List.forall_mem_cons.mpr ⟨lw_p43, List.forall_mem_cons.mpr ⟨lw_p44, List.forall_mem_cons.mpr ⟨lw_p45, List.forall_mem_cons.mpr ⟨lw_p46, List.forall_mem_cons.mpr ⟨lw_p47, fun _ h => absurd h List.not_mem_nil⟩⟩⟩⟩⟩⟩⟩⟩⟩⟩⟩⟩⟩⟩⟩⟩
theorem lw_p48 : lw_okq (⟨"TapeRoboticsModel", "trackOf", "(II)I"⟩, 26) := ⟨⟨by decide +kernel, by decide +kernel⟩, List.mem_of_getElem? (i := 661) (by decide +kernel), List.mem_of_getElem? (i := 802) (by decide +kernel), List.mem_of_getElem? (i := 803) (by decide +kernel)⟩
theorem lw_p49 : lw_okq (⟨"TapeRoboticsModel", "isDrive", "(I)Z"⟩, 26) := ⟨⟨by decide +kernel, by decide +kernel⟩, List.mem_of_getElem? (i := 661) (by decide +kernel), List.mem_of_getElem? (i := 814) (by decide +kernel), List.mem_of_getElem? (i := 815) (by decide +kernel)⟩
theorem lw_p50 : lw_okq (⟨"TapeRoboticsModel", "robot", "(II)I"⟩, 26) := ⟨⟨by decide +kernel, by decide +kernel⟩, List.mem_of_getElem? (i := 661) (by decide +kernel), List.mem_of_getElem? (i := 818) (by decide +kernel), List.mem_of_getElem? (i := 819) (by decide +kernel)⟩
theorem lw_p51 : lw_okq (⟨"TapeRoboticsModel", "hasTape", "(I)Z"⟩, 26) := ⟨⟨by decide +kernel, by decide +kernel⟩, List.mem_of_getElem? (i := 661) (by decide +kernel), List.mem_of_getElem? (i := 829) (by decide +kernel), List.mem_of_getElem? (i := 830) (by decide +kernel)⟩
theorem lw_p52 : lw_okq (⟨"TapeRoboticsModel", "way", "(III)I"⟩, 26) := ⟨⟨by decide +kernel, by decide +kernel⟩, List.mem_of_getElem? (i := 661) (by decide +kernel), List.mem_of_getElem? (i := 833) (by decide +kernel), List.mem_of_getElem? (i := 834) (by decide +kernel)⟩
theorem lw_p53 : lw_okq (⟨"TapeRoboticsModel", "isClean", "(I)Z"⟩, 26) := ⟨⟨by decide +kernel, by decide +kernel⟩, List.mem_of_getElem? (i := 661) (by decide +kernel), List.mem_of_getElem? (i := 841) (by decide +kernel), List.mem_of_getElem? (i := 842) (by decide +kernel)⟩
theorem lw_p54 : lw_okq (⟨"TapeRoboticsModel", "behind", "(I)I"⟩, 26) := ⟨⟨by decide +kernel, by decide +kernel⟩, List.mem_of_getElem? (i := 661) (by decide +kernel), List.mem_of_getElem? (i := 845) (by decide +kernel), List.mem_of_getElem? (i := 846) (by decide +kernel)⟩
theorem lw_p55 : lw_okq (⟨"TapeRoboticsModel", "mayAll", "(ZZZ)Z"⟩, 26) := ⟨⟨by decide +kernel, by decide +kernel⟩, List.mem_of_getElem? (i := 661) (by decide +kernel), List.mem_of_getElem? (i := 849) (by decide +kernel), List.mem_of_getElem? (i := 850) (by decide +kernel)⟩
theorem lw_p56 : lw_okq (⟨"TapeRoboticsModel", "run", "(III)I"⟩, 26) := ⟨⟨by decide +kernel, by decide +kernel⟩, List.mem_of_getElem? (i := 661) (by decide +kernel), List.mem_of_getElem? (i := 853) (by decide +kernel), List.mem_of_getElem? (i := 854) (by decide +kernel)⟩
theorem lw_p57 : lw_okq (⟨"TapeRoboticsModel", "waitingAt", "(I)I"⟩, 26) := ⟨⟨by decide +kernel, by decide +kernel⟩, List.mem_of_getElem? (i := 661) (by decide +kernel), List.mem_of_getElem? (i := 878) (by decide +kernel), List.mem_of_getElem? (i := 879) (by decide +kernel)⟩
theorem lw_p58 : lw_okq (⟨"TapeRoboticsModel", "waits", "(II)Z"⟩, 26) := ⟨⟨by decide +kernel, by decide +kernel⟩, List.mem_of_getElem? (i := 661) (by decide +kernel), List.mem_of_getElem? (i := 882) (by decide +kernel), List.mem_of_getElem? (i := 883) (by decide +kernel)⟩
theorem lw_p59 : lw_okq (⟨"TapeRoboticsModel", "earliest", "(I)I"⟩, 26) := ⟨⟨by decide +kernel, by decide +kernel⟩, List.mem_of_getElem? (i := 661) (by decide +kernel), List.mem_of_getElem? (i := 894) (by decide +kernel), List.mem_of_getElem? (i := 895) (by decide +kernel)⟩
theorem lw_p60 : lw_okq (⟨"TapeRoboticsModel", "arrange", "(I)I"⟩, 26) := ⟨⟨by decide +kernel, by decide +kernel⟩, List.mem_of_getElem? (i := 661) (by decide +kernel), List.mem_of_getElem? (i := 903) (by decide +kernel), List.mem_of_getElem? (i := 904) (by decide +kernel)⟩
theorem lw_p61 : lw_okq (⟨"TapeRoboticsModel", "listJobs", "(I)V"⟩, 26) := ⟨⟨by decide +kernel, by decide +kernel⟩, List.mem_of_getElem? (i := 661) (by decide +kernel), List.mem_of_getElem? (i := 907) (by decide +kernel), List.mem_of_getElem? (i := 908) (by decide +kernel)⟩
theorem lw_p62 : lw_okq (⟨"TapeRoboticsModel", "timeOf", "(III)I"⟩, 26) := ⟨⟨by decide +kernel, by decide +kernel⟩, List.mem_of_getElem? (i := 661) (by decide +kernel), List.mem_of_getElem? (i := 912) (by decide +kernel), List.mem_of_getElem? (i := 913) (by decide +kernel)⟩
theorem lw_p63 : lw_okq (⟨"TapeRoboticsModel", "startOf", "(I)I"⟩, 26) := ⟨⟨by decide +kernel, by decide +kernel⟩, List.mem_of_getElem? (i := 661) (by decide +kernel), List.mem_of_getElem? (i := 916) (by decide +kernel), List.mem_of_getElem? (i := 917) (by decide +kernel)⟩
def lw_privs_4 : List (MethodName × Nat) := [(⟨"TapeRoboticsModel", "trackOf", "(II)I"⟩, 26), (⟨"TapeRoboticsModel", "isDrive", "(I)Z"⟩, 26), (⟨"TapeRoboticsModel", "robot", "(II)I"⟩, 26), (⟨"TapeRoboticsModel", "hasTape", "(I)Z"⟩, 26), (⟨"TapeRoboticsModel", "way", "(III)I"⟩, 26), (⟨"TapeRoboticsModel", "isClean", "(I)Z"⟩, 26), (⟨"TapeRoboticsModel", "behind", "(I)I"⟩, 26), (⟨"TapeRoboticsModel", "mayAll", "(ZZZ)Z"⟩, 26), (⟨"TapeRoboticsModel", "run", "(III)I"⟩, 26), (⟨"TapeRoboticsModel", "waitingAt", "(I)I"⟩, 26), (⟨"TapeRoboticsModel", "waits", "(II)Z"⟩, 26), (⟨"TapeRoboticsModel", "earliest", "(I)I"⟩, 26), (⟨"TapeRoboticsModel", "arrange", "(I)I"⟩, 26), (⟨"TapeRoboticsModel", "listJobs", "(I)V"⟩, 26), (⟨"TapeRoboticsModel", "timeOf", "(III)I"⟩, 26), (⟨"TapeRoboticsModel", "startOf", "(I)I"⟩, 26)]
theorem lw_r4 : ∀ q ∈ lw_privs_4, lw_okq q := List.forall_mem_cons.mpr ⟨lw_p48, List.forall_mem_cons.mpr ⟨lw_p49, List.forall_mem_cons.mpr ⟨lw_p50, List.forall_mem_cons.mpr ⟨lw_p51, List.forall_mem_cons.mpr ⟨lw_p52, List.forall_mem_cons.mpr ⟨lw_p53, List.forall_mem_cons.mpr ⟨lw_p54, List.forall_mem_cons.mpr ⟨lw_p55, List.forall_mem_cons.mpr ⟨lw_p56, List.forall_mem_cons.mpr ⟨lw_p57, List.forall_mem_cons.mpr ⟨lw_p58, List.forall_mem_cons.mpr ⟨lw_p59, List.forall_mem_cons.mpr ⟨lw_p60, List.forall_mem_cons.mpr ⟨lw_p61, List.forall_mem_cons.mpr ⟨lw_p62, List.forall_mem_cons.mpr ⟨lw_p63, fun _ h => absurd h List.not_mem_nil⟩⟩⟩⟩⟩⟩⟩⟩⟩⟩⟩⟩⟩⟩⟩⟩
theorem lw_p64 : lw_okq (⟨"TapeRoboticsModel", "blocksOf", "(I)I"⟩, 26) := ⟨⟨by decide +kernel, by decide +kernel⟩, List.mem_of_getElem? (i := 661) (by decide +kernel), List.mem_of_getElem? (i := 920) (by decide +kernel), List.mem_of_getElem? (i := 921) (by decide +kernel)⟩
theorem lw_p65 : lw_okq (⟨"TapeRoboticsModel", "timeWith", "(IIII)I"⟩, 26) := ⟨⟨by decide +kernel, by decide +kernel⟩, List.mem_of_getElem? (i := 661) (by decide +kernel), List.mem_of_getElem? (i := 932) (by decide +kernel), List.mem_of_getElem? (i := 933) (by decide +kernel)⟩
theorem lw_p66 : lw_okq (⟨"TapeRoboticsModel", "unlabelled", "()I"⟩, 26) := ⟨⟨by decide +kernel, by decide +kernel⟩, List.mem_of_getElem? (i := 661) (by decide +kernel), List.mem_of_getElem? (i := 953) (by decide +kernel), List.mem_of_getElem? (i := 954) (by decide +kernel)⟩
def lw_privs_5 : List (MethodName × Nat) := [(⟨"TapeRoboticsModel", "blocksOf", "(I)I"⟩, 26), (⟨"TapeRoboticsModel", "timeWith", "(IIII)I"⟩, 26), (⟨"TapeRoboticsModel", "unlabelled", "()I"⟩, 26)]
theorem lw_r5 : ∀ q ∈ lw_privs_5, lw_okq q := List.forall_mem_cons.mpr ⟨lw_p64, List.forall_mem_cons.mpr ⟨lw_p65, List.forall_mem_cons.mpr ⟨lw_p66, fun _ h => absurd h List.not_mem_nil⟩⟩⟩
def lw_privs : List (MethodName × Nat) := lw_privs_1 ++ (lw_privs_2 ++ (lw_privs_3 ++ (lw_privs_4 ++ (lw_privs_5))))
def lw_tbl : List Cond := k2_sels lw_privs ++ tables_1
theorem lw_privs_ok : ∀ q ∈ lw_privs, lw_okq q := by
  show ∀ q ∈ lw_privs_1 ++ (lw_privs_2 ++ (lw_privs_3 ++ (lw_privs_4 ++ (lw_privs_5)))), lw_okq q
  exact List.forall_mem_append.mpr ⟨lw_r1, List.forall_mem_append.mpr ⟨lw_r2, List.forall_mem_append.mpr ⟨lw_r3, List.forall_mem_append.mpr ⟨lw_r4, lw_r5⟩⟩⟩⟩
end
section
/-! ===== BEGIN words of one list among another's, by their places ===== -/
theorem goodIn_r {big : List Cond} (ws : List Cond) (ps : List Nat) (hp : ws = ps.filterMap (fun i => big[i]?)) (h : ws.all goodWord = true) : GoodIn big ws := by
  intro w hw
  have h1 := List.all_eq_true.mp h w hw
  rw [hp] at hw
  obtain ⟨i, -, hi⟩ := List.mem_filterMap.mp hw
  have hm : w ∈ big := by first | exact List.mem_of_getElem? hi | exact List.getElem?_mem hi
  exact ⟨hm, good_of_word h1⟩
theorem goodIn_app {big a b : List Cond} (ha : GoodIn big a) (hb : GoodIn big b) : GoodIn big (a ++ b) := fun w h => (List.mem_append.mp h).elim (ha w) (hb w)
theorem goodIn_ca {big a b : List Cond} {c : Cond} (ha : GoodIn big (c :: a)) (hb : GoodIn big b) : GoodIn big (c :: (a ++ b)) := fun w h => (List.mem_cons.mp h).elim (fun e => ha w (List.mem_cons.mpr (Or.inl e))) (fun h => (List.mem_append.mp h).elim (fun h => ha w (List.mem_cons.mpr (Or.inr h))) (hb w))
theorem goodIn_sub {big ws : List Cond} (hm : ∀ w ∈ ws, w ∈ big) (h : ws.all goodWord = true) : GoodIn big ws := fun w hw => ⟨hm w hw, good_of_word (List.all_eq_true.mp h w hw)⟩
/-! ===== END ===== -/

/-! ===== BEGIN exceptions that leave a method, and their catching by the caller (launches without stack traces) ===== -/
section VXA
/-! The laws vx_back, vx_callV, vx_callS, vx_callSW, vx_throw0, vx_throwS follow proofs of the library, with one case more: JvmDerived/Free/Laws.lean (Back.of_free), Shelf42/LK1.lean (callV, callS), Shelf/KitTraced.lean (throwNew0V, throwNewS). -/
/-- where a method has thrown q: the class by its name, the cell, what was written, the world -/
def vx_T (XC : String → State → State → Prop) (st : State) (q : Addr) (t : State) (mc ms : Nat) (free : Addr → Prop) : Prop :=
  ∃ (E : String) (ce : Cell) (L : List Loc), XC E st t ∧ t.heap[q]? = some ce ∧ ce.vm = .none ∧ st.vm.findClass E = some ce.cls ∧ st.WarmedH t.vm ∧ st.sameButNew ({ t with vm := st.vm } : State) L mc ms ∧ ∀ z ∈ L, free z.base
def vx_Q (Qc : Array Value → State → Outcome → State → Prop) (XC : String → State → State → Prop) (mc ms : Nat) (free : Addr → Prop) : Array Value → State → Outcome → State → Prop := fun a st o t =>
  (Qc a st o t ∧ ∃ L, FrameEnd st o t L mc ms ∧ ∀ q ∈ L, free q.base) ∨ ∃ q, o = .threw q ∧ vx_T XC st q t mc ms free
/-- a callee that returns or throws -/
def vx_Met (l : Launch) (y : MethodName) (ws : List Cond) (rm : Room) (Pc : Array Value → State → Prop) (Qc : Array Value → State → Outcome → State → Prop) (XC : String → State → State → Prop) (mc ms : Nat) (free : Addr → Prop) : Prop :=
  MetFree l y (headSpec ws rm) Pc (fun _ _ _ _ _ => True) (vx_Q Qc XC mc ms free)
def vx_Post (XC : String → State → State → Prop) (mc ms : Nat) (free : Addr → Prop) : Pt → Array Value → Addr → Pt → Prop := fun A a q B =>
  ∃ (g : JFrame) (mk : MethodId) (t : State) (L : List Loc) (E : String) (ce : Cell), B.U.heap = t.heap ∧ B.U.vm = t.vm ∧ XC E (A.U.calling g mk a) t ∧ t.heap[q]? = some ce ∧ ce.vm = .none ∧ A.U.vm.findClass E = some ce.cls ∧ B.locs = A.locs ++ L ∧ (∀ z ∈ L, free z.base) ∧ B.cells = A.cells + mc ∧ B.slots = A.slots + ms
def vx_Back (l : Launch) (R : Room) (p : Program) (e : Env) (below : List Frame) (s : State) (sargs : Array Value) (y : MethodName) (len W9 : Nat)
    (Pre : Pt → Array Value → Prop) (Post : Pt → Array Value → Option Value → Pt → Prop) (PostX : Pt → Array Value → Addr → Pt → Prop) : Prop :=
  ∀ (m : MethodId) (meth : Method) (c : Code) (A : Pt) (g : JFrame) (ig : Instr) (mk : MethodId) (a : Array Value),
    Stand p l e R s m sargs below meth c A.U A.locs A.cells A.slots → g.method = m → g.locals.size = c.maxLocals → decode c.code g.pc = .ok (ig, len) →
    2 * g.monitorRoom + (g.stack.map fun v => v.category).sum ≤ W9 → A.U.methodNamed? y = some mk → Pre A a →
    (∃ (v : Option Value) (B : Pt), Stand p l e R s m sargs below meth c B.U B.locs B.cells B.slots ∧ Post A a v B ∧
      Steps p.tables e below (doInvoke e (A.U.setTop g) [] mk a).1 (B.U.setTop { g with pc := g.pc + len, stack := v.toList ++ g.stack })) ∨
    (∃ (q : Addr) (B : Pt), Stand p l e R s m sargs below meth c B.U B.locs B.cells B.slots ∧ PostX A a q B ∧
      Steps p.tables e below (doInvoke e (A.U.setTop g) [] mk a).1 ((B.U.setTop g).pushFrame (.throwing q)))
section Payer
variable {l : Launch} {R : Room} {p : Program} {e : Env} {below : List Frame} {s : State} {sargs : Array Value} {y : MethodName} {len W9 : Nat}
theorem vx_back {ws : List Cond} {rm : Room} {Pc : Array Value → State → Prop} {Qc : Array Value → State → Outcome → State → Prop} {XC : String → State → State → Prop} {mc ms : Nat} {free : Addr → Prop} {bytes : ByteArray} {maxL : Nat} {ret : Option FieldType}
    (hM : vx_Met l y ws rm Pc Qc XC mc ms free) (hblind : FrameBlind Pc) (hrc : rm.cells = mc) (hrs : rm.slots = ms)
    (hframes : rm.frames + 1 ≤ R.frames) (hlocals : W9 + (maxL + 11) + rm.locals ≤ R.locals)
    (hws : ∀ w ∈ ws, ∀ a' U, s.WarmedH U.vm → w.before a' U = true) (hcode : Cond.code y bytes maxL ret ∈ ws) (hinit : ∀ a' U, s.WarmedH U.vm → (Cond.initialized y.cls).before a' U = true) :
    vx_Back l R p e below s sargs y len W9 (PreOf R mc ms Pc) (PostOf Qc mc ms free) (vx_Post XC mc ms free) := by
  intro m meth c A g ig mk a X hg hsize hdg hW hn hp
  have h1 : (headSpec ws rm).pre.before a A.U = true := atoms_intro fun w hw => hws w hw _ _ X.warmed
  have h2 : (Cond.code y bytes maxL ret).before a A.U = true := hws _ hcode _ _ X.warmed
  have h3 : (Cond.initialized y.cls).before a A.U = true := hinit _ _ X.warmed
  have h4 : A.cells + (headSpec ws rm).room.cells ≤ R.cells := by rw [show (headSpec ws rm).room.cells = mc from hrc]; exact hp.1
  have h5 : A.slots + (headSpec ws rm).room.slots ≤ R.slots := by rw [show (headSpec ws rm).room.slots = ms from hrs]; exact hp.2.1
  have hPc : Pc a (A.U.calling g mk a) := hblind _ _ _ _ hp.2.2
  obtain ⟨U, Ls, c0, s0⟩ := A
  dsimp only [Pt.U, Pt.locs, Pt.cells, Pt.slots] at h1 h2 h3 h4 h5 X hn hPc ⊢
  obtain ⟨methY, cY, hmY, hcY, -, hlY, -, -, -, -⟩ := Cond.code_spec hn h2
  obtain ⟨kY, hkY, -⟩ := className_of_methodNamed hn
  have hinitY : kY.init = .initialized := Cond.initialized_spec (findClass_of_methodNamed hn) hkY h3
  have h : At U g.method c below := by rw [hg]; exact X.here
  have hlocals9 : W9 + (maxL + 11) + (headSpec ws rm).room.locals ≤ R.locals := hlocals
  have happ : (headSpec ws rm).appliesLoose y e.platform (U.calling g mk a) = true :=
    Spec.appliesLoose_calling (g := g) h hdg hn hkY hinitY
      (X.room_calling (g := g) (R' := (headSpec ws rm).room) hsize hmY hcY hframes (by rw [hlY]; omega) h4 h5) h1
  obtain ⟨mid, hmid⟩ := h.above
  have hfr : (U.setTop g).frames = (.java g :: mid) ++ below := by rw [State.frames_setTop' g h.top, hmid]; rfl
  obtain ⟨o, s₂, hsteps, -, hend, hq⟩ := Steps.callFree hM p X.admits X.cas X.clock (acts := []) hfr happ hPc trivial
  have hq' : vx_Q Qc XC mc ms free a (U.calling g mk a) o s₂ := hq
  rw [State.frames_setTop' g h.top] at hend
  obtain ⟨g₀, hg0⟩ := Option.isSome_iff_exists.mp h.top
  obtain ⟨r, hr⟩ := State.topJava?_eq_some.mp hg0
  have hr' : (({ U with heap := s₂.heap, slotsUsed := s₂.slotsUsed } : State).setVm s₂.vm).frames = .java g₀ :: r := hr
  rcases hq' with ⟨hqc, L, hfe, hL⟩ | ⟨q, rfl, E, ce, L, hx, hce, hcv, hcl, hW₂, hsm, hL⟩
  · obtain ⟨⟨v, rfl⟩, hW₂, e2, q2, q3, q4, q5, q6⟩ := id hfe
    have e3 : s₂ = ({ (U.calling g mk a).setFrames s₂.frames with heap := s₂.heap, slotsUsed := s₂.slotsUsed } : State).setVm s₂.vm := by
      have : s₂ = ({ s₂ with vm := (U.calling g mk a).vm } : State).setVm s₂.vm := rfl
      rw [e2] at this
      exact this
    obtain ⟨c₂, i₂, len₂, hc₂, hd₂, hf₂⟩ := hend
    have hW' : U.WarmedH s₂.vm := hW₂
    have hcc : c₂ = c := by
      have h1 : s₂.code? g.method = U.code? g.method := by
        rw [State.code?_eq, State.code?_eq, hW'.alike.method?]
      exact Option.some.inj (hc₂.symm.trans (h1.trans h.code))
    subst hcc
    have hlen : len₂ = len := by rw [hdg] at hd₂; cases hd₂; rfl
    subst hlen
    have hs₂ : s₂ = (({ U with heap := s₂.heap, slotsUsed := s₂.slotsUsed } : State).setVm s₂.vm).setTop { g with pc := g.pc + len₂, stack := v.toList ++ g.stack } := by
      refine e3.trans ?_
      rw [hf₂, State.calling_eq h.top, State.setFrames_setFrames, State.setTop_of_frames _ hr', hr]
      rfl
    have hsame : U.sameButNew ({ U with heap := s₂.heap, slotsUsed := s₂.slotsUsed } : State) L mc ms := by
      refine ⟨?_, q2, q3, q4, q5, q6⟩
      obtain ⟨t, ht, -⟩ := State.frames_cons hr
      show ({ U with heap := s₂.heap, slotsUsed := s₂.slotsUsed } : State) = { U.setFrames U.frames with heap := s₂.heap, slotsUsed := s₂.slotsUsed }
      rw [State.setFrames_self ht]
    subst hg
    refine Or.inl ⟨v, ⟨(({ U with heap := s₂.heap, slotsUsed := s₂.slotsUsed } : State).setVm s₂.vm), Ls ++ L, c0 + mc, s0 + ms⟩,
      ⟨X.admits, X.cas, X.clock, X.frames, X.room, X.hears, X.method, X.code, (X.here.setHeapUsed s₂.heap s₂.slotsUsed).setVm hW'.alike, X.tail, State.WarmedH.trans X.warmed hW', X.limits, X.bytes, X.same.trans (hsame.setVm s.vm)⟩,
      ⟨g, mk, s₂, L, rfl, rfl, hqc, rfl, hL, rfl, rfl⟩, ?_⟩
    show Steps p.tables e below _ ((({ U with heap := s₂.heap, slotsUsed := s₂.slotsUsed } : State).setVm s₂.vm).setTop { g with pc := g.pc + len₂, stack := v.toList ++ g.stack })
    rw [← hs₂]
    exact hsteps
  · obtain ⟨e2, q2, q3, q4, q5, q6⟩ := id hsm
    have e3 : s₂ = ({ (U.calling g mk a).setFrames s₂.frames with heap := s₂.heap, slotsUsed := s₂.slotsUsed } : State).setVm s₂.vm := by
      have : s₂ = ({ s₂ with vm := (U.calling g mk a).vm } : State).setVm s₂.vm := rfl
      rw [e2] at this
      exact this
    have hf₂ : s₂.frames = .throwing q :: .java g :: U.frames.tail := hend
    have hW' : U.WarmedH s₂.vm := hW₂
    have hs₂ : s₂ = ((({ U with heap := s₂.heap, slotsUsed := s₂.slotsUsed } : State).setVm s₂.vm).setTop g).pushFrame (.throwing q) := by
      refine e3.trans ?_
      rw [hf₂, State.calling_eq h.top, State.setFrames_setFrames, State.pushFrame, State.frames_setTop _ hr', State.setTop_of_frames _ hr', State.setFrames_setFrames, hr]
      rfl
    have hsame : U.sameButNew ({ U with heap := s₂.heap, slotsUsed := s₂.slotsUsed } : State) L mc ms := by
      refine ⟨?_, q2, q3, q4, q5, q6⟩
      obtain ⟨t, ht, -⟩ := State.frames_cons hr
      show ({ U with heap := s₂.heap, slotsUsed := s₂.slotsUsed } : State) = { U.setFrames U.frames with heap := s₂.heap, slotsUsed := s₂.slotsUsed }
      rw [State.setFrames_self ht]
    subst hg
    refine Or.inr ⟨q, ⟨(({ U with heap := s₂.heap, slotsUsed := s₂.slotsUsed } : State).setVm s₂.vm), Ls ++ L, c0 + mc, s0 + ms⟩,
      ⟨X.admits, X.cas, X.clock, X.frames, X.room, X.hears, X.method, X.code, (X.here.setHeapUsed s₂.heap s₂.slotsUsed).setVm hW'.alike, X.tail, State.WarmedH.trans X.warmed hW', X.limits, X.bytes, X.same.trans (hsame.setVm s.vm)⟩,
      ⟨g, mk, s₂, L, E, ce, rfl, rfl, hx, hce, hcv, hcl, rfl, hL, rfl, rfl⟩, ?_⟩
    show Steps p.tables e below _ (((({ U with heap := s₂.heap, slotsUsed := s₂.slotsUsed } : State).setVm s₂.vm).setTop g).pushFrame (.throwing q))
    rw [← hs₂]
    exact hsteps
end Payer
section Calls
variable {p : Program} {l : Launch} {e : Env} {R : Room} {s : State} {m : MethodId} {args : Array Value} {below : List Frame} {meth : Method} {c : Code} {T : State} {locs : List Loc} {cells slots : Nat}
theorem vx_callV (X : Stand p l e R s m args below meth c T locs cells slots) (hexec : p.tables.exec = Jvm.exec) {own C : String} {index : Nat} {y : MethodName} {bytes : ByteArray} {maxL : Nat} {ret : Option FieldType}
    (hown : s.vm.findClass own = some m.cls) (hlink : (Cond.methodLink own index y).before args s = true) (hinst : (Cond.instanceMethod y).before args s = true) (hsel : (Cond.selects C y y).before args s = true)
    (hcode : (Cond.code y bytes maxL ret).before args s = true) (hy : y.cls ≠ "java/lang/invoke/MethodHandle" ∧ y.cls ≠ "java/lang/invoke/VarHandle")
    {W9 : Nat} {Pre : Pt → Array Value → Prop} {Post : Pt → Array Value → Option Value → Pt → Prop} {PostX : Pt → Array Value → Addr → Pt → Prop} (hK : vx_Back l R p e below s args y 3 W9 Pre Post PostX)
    {b : Addr} {cellB : Cell} (hcell : T.heap[b]? = some cellB) (hobj : cellB.vm.isStatics = false) (hcls : s.vm.findClass C = some cellB.cls)
    {g : JFrame} (hg : g.method = m) (hsize : g.locals.size = c.maxLocals) {argsL rest : List Value} (hlen : ∀ sig, parseMethodDescriptor y.desc = some sig → argsL.length = sig.parameters.length)
    (hstack : g.stack = argsL.reverse ++ .ref b :: rest) (hW : 2 * g.monitorRoom + (rest.map fun v => v.category).sum ≤ W9) (hdg : decode c.code g.pc = .ok (.invokevirtual index, 3))
    (hpre : ∀ vm₁, s.WarmedH vm₁ → Pre ⟨T.setVm vm₁, locs, cells, slots⟩ (Value.ref b :: argsL).toArray) :
    (∃ (v : Option Value) (vm₁ : Vm) (B : Pt), s.WarmedH vm₁ ∧ Stand p l e R s m args below meth c B.U B.locs B.cells B.slots ∧ Post ⟨T.setVm vm₁, locs, cells, slots⟩ (Value.ref b :: argsL).toArray v B ∧
      ∀ target, Steps p.tables e below (B.U.setTop { g with pc := g.pc + 3, stack := v.toList ++ rest }) target → Steps p.tables e below (T.setTop g) target) ∨
    (∃ (q : Addr) (vm₁ : Vm) (B : Pt), s.WarmedH vm₁ ∧ Stand p l e R s m args below meth c B.U B.locs B.cells B.slots ∧ PostX ⟨T.setVm vm₁, locs, cells, slots⟩ (Value.ref b :: argsL).toArray q B ∧
      Steps p.tables e below (T.setTop g) ((B.U.setTop { g with stack := rest }).pushFrame (.throwing q))) := by
  obtain ⟨mk, methM, hnamed, hmethM, hstM, habM⟩ := Cond.instanceMethod_spec hinst
  obtain ⟨methM', cM, hmethM', -, -, -, -, -, -, hsigM⟩ := Cond.code_spec hnamed hcode
  cases hmethM.symm.trans hmethM'
  obtain ⟨c2, r2, m2, q1, q2, q3, q4, kP, hkP, hkPi⟩ := Cond.selects_spec hsel
  cases hcls.symm.trans q1
  cases (State.methodFound?_of_named hnamed hy).symm.trans q2
  cases hnamed.symm.trans q3
  have hselP : selectMethod e.platform s.vm cellB.cls mk = .method mk := by rw [Launch.admits_selectMethod X.admits]; exact q4
  obtain ⟨vm₁, X₁, hstep₁⟩ := X.invokevirtual hexec hown hlink hnamed hmethM hstM hkP hkPi hy (a := b) (cell := cellB) hcell
    (fun z h => by rw [h] at hobj; cases hobj) hselP hmethM habM hkP hkPi (g := g) hg (argsL := argsL) (rest := rest) (hlen _ hsigM) hstack hdg
  rcases hK m meth c ⟨T.setVm vm₁, locs, cells, slots⟩ { g with stack := rest } (.invokevirtual index) mk (Value.ref b :: argsL).toArray X₁ hg hsize hdg hW (X₁.named hnamed) (hpre vm₁ X₁.warmed) with ⟨v, B, X', hpost, hsteps⟩ | ⟨q, B, X', hpost, hsteps⟩
  · exact Or.inl ⟨v, vm₁, B, X₁.warmed, X', hpost, fun target h => hstep₁ _ fun acts => by rw [doInvoke_state]; exact hsteps.trans h⟩
  · exact Or.inr ⟨q, vm₁, B, X₁.warmed, X', hpost, hstep₁ _ fun acts => by rw [doInvoke_state]; exact hsteps⟩
theorem vx_callS (X : Stand p l e R s m args below meth c T locs cells slots) (hexec : p.tables.exec = Jvm.exec) {own : String} {index : Nat} {y : MethodName} {bytes : ByteArray} {maxL : Nat} {ret : Option FieldType}
    (hown : s.vm.findClass own = some m.cls) (hlink : (Cond.methodLink own index y).before args s = true) (hstat : (Cond.static y).before args s = true) (hinit : (Cond.initialized y.cls).before args s = true)
    (hcode : (Cond.code y bytes maxL ret).before args s = true) (hy : y.cls ≠ "java/lang/invoke/MethodHandle" ∧ y.cls ≠ "java/lang/invoke/VarHandle")
    {W9 : Nat} {Pre : Pt → Array Value → Prop} {Post : Pt → Array Value → Option Value → Pt → Prop} {PostX : Pt → Array Value → Addr → Pt → Prop} (hK : vx_Back l R p e below s args y 3 W9 Pre Post PostX)
    {g : JFrame} (hg : g.method = m) (hsize : g.locals.size = c.maxLocals) {argsL rest : List Value} (hlen : ∀ sig, parseMethodDescriptor y.desc = some sig → argsL.length = sig.parameters.length)
    (hstack : g.stack = argsL.reverse ++ rest) (hW : 2 * g.monitorRoom + (rest.map fun v => v.category).sum ≤ W9) (hdg : decode c.code g.pc = .ok (.invokestatic index, 3))
    (hpre : ∀ vm₁, s.WarmedH vm₁ → Pre ⟨T.setVm vm₁, locs, cells, slots⟩ argsL.toArray) :
    (∃ (v : Option Value) (vm₁ : Vm) (B : Pt), s.WarmedH vm₁ ∧ Stand p l e R s m args below meth c B.U B.locs B.cells B.slots ∧ Post ⟨T.setVm vm₁, locs, cells, slots⟩ argsL.toArray v B ∧
      ∀ target, Steps p.tables e below (B.U.setTop { g with pc := g.pc + 3, stack := v.toList ++ rest }) target → Steps p.tables e below (T.setTop g) target) ∨
    (∃ (q : Addr) (vm₁ : Vm) (B : Pt), s.WarmedH vm₁ ∧ Stand p l e R s m args below meth c B.U B.locs B.cells B.slots ∧ PostX ⟨T.setVm vm₁, locs, cells, slots⟩ argsL.toArray q B ∧
      Steps p.tables e below (T.setTop g) ((B.U.setTop { g with stack := rest }).pushFrame (.throwing q))) := by
  obtain ⟨mk, hnamed⟩ := Cond.code_named hcode
  obtain ⟨methM, cM, hmethM, -, -, -, -, -, -, hsigM⟩ := Cond.code_spec hnamed hcode
  have hstatic : methM.isStatic = true := Cond.static_spec hnamed hmethM hstat
  obtain ⟨kP, hkP, -⟩ := className_of_methodNamed hnamed
  have hinitP : kP.init = .initialized := Cond.initialized_spec (findClass_of_methodNamed hnamed) hkP hinit
  obtain ⟨vm₁, X₁, hstep₁⟩ := X.invokestatic hexec hown hlink hnamed hmethM hstatic hkP hinitP hy (g := g) hg (argsL := argsL) (rest := rest) (hlen _ hsigM) hstack hdg
  rcases hK m meth c ⟨T.setVm vm₁, locs, cells, slots⟩ { g with stack := rest } (.invokestatic index) mk argsL.toArray X₁ hg hsize hdg hW (X₁.named hnamed) (hpre vm₁ X₁.warmed) with ⟨v, B, X', hpost, hsteps⟩ | ⟨q, B, X', hpost, hsteps⟩
  · exact Or.inl ⟨v, vm₁, B, X₁.warmed, X', hpost, fun target h => hstep₁ _ fun acts => by rw [doInvoke_state]; exact hsteps.trans h⟩
  · exact Or.inr ⟨q, vm₁, B, X₁.warmed, X', hpost, hstep₁ _ fun acts => by rw [doInvoke_state]; exact hsteps⟩
end Calls
theorem vx_cls {s : State} {T : State} {vm₁ : Vm} {E : String} {k : ClassId} (hW : s.WarmedH vm₁) (h : (T.setVm vm₁).vm.findClass E = some k) : s.vm.findClass E = some k := by
  have h1 : vm₁.findClass E = some k := h
  rw [hW.alike.findClass] at h1
  exact h1
/-- the method's frame g, with q thrown over it -/
def vx_W (p : Program) (l : Launch) (e : Env) (R : Room) (s : State) (m : MethodId) (args : Array Value) (below : List Frame) (meth : Method) (c : Code) (H : Heap) (locs : List Loc) (cells slots : Nat) (Q : State → Prop) (g : JFrame) (q : Addr) : Prop :=
  ∀ T : State, T.heap = H → Stand p l e R s m args below meth c T locs cells slots → ∃ t, Steps p.tables e below ((T.setTop g).pushFrame (.throwing q)) t ∧ Q t
def vx_Run (p : Program) (l : Launch) (e : Env) (R : Room) (s : State) (m : MethodId) (args : Array Value) (below : List Frame) (meth : Method) (c : Code) (H : Heap) (locs : List Loc) (cells slots mc ms : Nat) (g : JFrame) (rest : List Value) (Qa : State → Outcome → State → Prop) (XC : String → State → State → Prop) (free : Addr → Prop) : Prop :=
  ∀ T : State, T.heap = H → Stand p l e R s m args below meth c T locs cells slots →
    (∃ (v : Option Value) (st₀ t T' : State) (L : List Loc), st₀.heap = H ∧ Stand p l e R s m args below meth c T' (locs ++ L) (cells + mc) (slots + ms) ∧ (∀ q ∈ L, free q.base) ∧ T'.heap = t.heap ∧ T'.vm = t.vm ∧ Qa st₀ (.returned v) t ∧
      Goes p e below T g T' { g with pc := g.pc + 3, stack := v.toList ++ rest }) ∨
    (∃ (q : Addr) (st₀ t T' : State) (L : List Loc) (E : String) (ce : Cell), st₀.heap = H ∧ Stand p l e R s m args below meth c T' (locs ++ L) (cells + mc) (slots + ms) ∧ (∀ z ∈ L, free z.base) ∧ T'.heap = t.heap ∧ T'.vm = t.vm ∧ XC E st₀ t ∧ t.heap[q]? = some ce ∧ ce.vm = .none ∧ s.vm.findClass E = some ce.cls ∧
      Steps p.tables e below (T.setTop g) ((T'.setTop { g with stack := rest }).pushFrame (.throwing q)))
def vx_X {S : Type} (px : S → Prop) (B : String → S → State → Prop) (A : Nat → Prop) : String → State → State → Prop := fun E st t => ∃ u : S, px u ∧ B E u t ∧ va_F A st t
section Runs
variable {p : Program} {l : Launch} {e : Env} {R : Room} {s : State} {m : MethodId} {args : Array Value} {below : List Frame} {meth : Method} {c : Code} {H : Heap} {locs : List Loc} {cells slots : Nat}
variable {y : MethodName} {bytes cc : ByteArray} {maxL nL mc ms n index : Nat} {ret : Option FieldType} {ws : List Cond} {rm : Room} {Pc : Array Value → State → Prop} {Qc : Array Value → State → Outcome → State → Prop} {XC : String → State → State → Prop} {free : Addr → Prop} {Ts : List Cond} {own C : String} {b : Addr} {As rest : List Value} {g : JFrame}
theorem vx_callBack (cb : CallB R s args own index y bytes maxL ret ws rm mc ms n) (hM : vx_Met l y ws rm Pc Qc XC mc ms free) (hbl : FrameBlind Pc) : vx_Back l R p e below s args y 3 8 (PreOf R mc ms Pc) (PostOf Qc mc ms free) (vx_Post XC mc ms free) := by
  obtain ⟨hrc, hrs, hfr, hlo, hws, hcw, -, hini, -⟩ := cb
  exact vx_back (bytes := bytes) (maxL := maxL) (ret := ret) hM hbl hrc hrs hfr hlo hws hcw (fun a' U hW => word_at hW (Or.inl (by first | rfl | simp [Cond.onTables, Cond.keeps, Cond.steady])) hini)
theorem vx_runV (S : CallFix p m c cc nL s args Ts own) (hM : vx_Met l y ws rm Pc Qc XC mc ms free) (cw : CallW R s args own C index y bytes maxL ret ws rm mc ms n) (hp : PreV s H C b Pc As)
    (hg : g.method = m) (hn : As.length = n) (hsize : g.locals.size = nL) (hstack : g.stack = As.reverse ++ .ref b :: rest) (hW : 2 * g.monitorRoom + (rest.map fun v => v.category).sum ≤ 8) (hdg : decode cc g.pc = .ok (.invokevirtual index, 3)) (hf : cells + mc ≤ R.cells ∧ slots + ms ≤ R.slots) :
    vx_Run p l e R s m args below meth c H locs cells slots mc ms g rest (Qc (Value.ref b :: As).toArray) XC free := by
  have hK : vx_Back l R p e below s args y 3 8 (PreOf R mc ms Pc) (PostOf Qc mc ms free) (vx_Post XC mc ms free) := vx_callBack cw.1 hM hp.1
  obtain ⟨⟨-, -, -, -, -, -, hcode, -, hy, hlen, hl⟩, hin, hse⟩ := cw
  obtain ⟨hx, hb, hml, ho, -⟩ := S
  obtain ⟨-, ⟨cellB, hcB, hoB, hclB⟩, hPc⟩ := hp
  intro T hT X
  rcases vx_callV X hx (C := C) (bytes := bytes) (maxL := maxL) (ret := ret) ho hl hin hse hcode hy hK (by rw [hT]; exact hcB) hoB hclB hg (hsize.trans hml.symm) (argsL := As) (rest := rest) (fun sig h => hn.trans (hlen sig h)) hstack hW (by rw [hb]; exact hdg)
    (fun vm₁ hW₁ => ⟨hf.1, hf.2, hPc (T.setVm vm₁) hT hW₁⟩) with ⟨v, vm₁, ⟨U', l2, c2, s2⟩, hW₁, X', ⟨g', mk, t, L, e1, e2, hq, h1, hL, h2, h3⟩, st⟩ | ⟨q, vm₁, ⟨U', l2, c2, s2⟩, hW₁, X', ⟨g', mk, t, L, E, ce, e1, e2, hq, hce, hcv, hcl, h1, hL, h2, h3⟩, st⟩
  · dsimp only [Pt.U, Pt.locs, Pt.cells, Pt.slots] at X' e1 e2 h1 h2 h3 st
    subst h1; subst h2; subst h3
    exact Or.inl ⟨v, (T.setVm vm₁).calling g' mk (Value.ref b :: As).toArray, t, U', L, hT, X', hL, e1, e2, hq, st⟩
  · dsimp only [Pt.U, Pt.locs, Pt.cells, Pt.slots] at X' e1 e2 h1 h2 h3 st hcl
    subst h1; subst h2; subst h3
    exact Or.inr ⟨q, (T.setVm vm₁).calling g' mk (Value.ref b :: As).toArray, t, U', L, E, ce, hT, X', hL, e1, e2, hq, hce, hcv, vx_cls hW₁ hcl, st⟩
theorem vx_runS (S : CallFix p m c cc nL s args Ts own) (hM : vx_Met l y ws rm Pc Qc XC mc ms free) (cw : CallB R s args own index y bytes maxL ret ws rm mc ms n ∧ (Cond.static y).before args s = true) (hp : PreS s H Pc As)
    (hg : g.method = m) (hn : As.length = n) (hsize : g.locals.size = nL) (hstack : g.stack = As.reverse ++ rest) (hW : 2 * g.monitorRoom + (rest.map fun v => v.category).sum ≤ 8) (hdg : decode cc g.pc = .ok (.invokestatic index, 3)) (hf : cells + mc ≤ R.cells ∧ slots + ms ≤ R.slots) :
    vx_Run p l e R s m args below meth c H locs cells slots mc ms g rest (Qc As.toArray) XC free := by
  have hK : vx_Back l R p e below s args y 3 8 (PreOf R mc ms Pc) (PostOf Qc mc ms free) (vx_Post XC mc ms free) := vx_callBack cw.1 hM hp.1
  obtain ⟨⟨-, -, -, -, -, -, hcode, hini, hy, hlen, hl⟩, hstt⟩ := cw
  obtain ⟨hx, hb, hml, ho, -⟩ := S
  intro T hT X
  rcases vx_callS X hx (bytes := bytes) (maxL := maxL) (ret := ret) ho hl hstt hini hcode hy hK hg (hsize.trans hml.symm) (argsL := As) (rest := rest) (fun sig h => hn.trans (hlen sig h)) hstack hW (by rw [hb]; exact hdg)
    (fun vm₁ hW₁ => ⟨hf.1, hf.2, hp.2 (T.setVm vm₁) hT hW₁⟩) with ⟨v, vm₁, ⟨U', l2, c2, s2⟩, hW₁, X', ⟨g', mk, t, L, e1, e2, hq, h1, hL, h2, h3⟩, st⟩ | ⟨q, vm₁, ⟨U', l2, c2, s2⟩, hW₁, X', ⟨g', mk, t, L, E, ce, e1, e2, hq, hce, hcv, hcl, h1, hL, h2, h3⟩, st⟩
  · dsimp only [Pt.U, Pt.locs, Pt.cells, Pt.slots] at X' e1 e2 h1 h2 h3 st
    subst h1; subst h2; subst h3
    exact Or.inl ⟨v, (T.setVm vm₁).calling g' mk As.toArray, t, U', L, hT, X', hL, e1, e2, hq, st⟩
  · dsimp only [Pt.U, Pt.locs, Pt.cells, Pt.slots] at X' e1 e2 h1 h2 h3 st hcl
    subst h1; subst h2; subst h3
    exact Or.inr ⟨q, (T.setVm vm₁).calling g' mk As.toArray, t, U', L, E, ce, hT, X', hL, e1, e2, hq, hce, hcv, vx_cls hW₁ hcl, st⟩
end Runs
section Rows
variable {p : Program} {l : Launch} {e : Env} {R : Room} {s : State} {m : MethodId} {args : Array Value} {below : List Frame} {meth : Method} {c : Code} {H : Heap} {locs : List Loc} {cells slots : Nat} {Q : State → Prop}
variable {mc ms : Nat} {free : Addr → Prop} {A0 A1 : Nat → Prop} {H0 : Heap} {a : Array Value} {pc : Nat} {ls : Array Slot} {st0 rest : List Value}
theorem vx_keep {st₀ t T' : State} {L : List Loc} (h0 : st₀.heap = H) (e1 : T'.heap = t.heap) (hS : va_S A0 H0 H locs) (hA : ∀ q, q < H.size → A1 q → A0 q) (hf : ∀ q, free q → A0 q) (hL : ∀ q ∈ L, free q.base) (hF : va_F A1 st₀ t) :
    H.size ≤ T'.heap.size ∧ (∀ q : Nat, q < H.size → ¬ A1 q → T'.heap[q]? = H[q]?) ∧ va_S A0 H0 T'.heap (locs ++ L) := by
  obtain ⟨hz, hk⟩ := hF
  rw [h0] at hz hk
  exact ⟨by rw [e1]; exact hz, fun q h1 h2 => by rw [e1]; exact hk q h1 h2,
    ⟨Nat.le_trans hS.1 (by rw [e1]; exact hz), fun q h1 h2 => by rw [e1, hk q (Nat.lt_of_lt_of_le h1 hS.1) (fun z => h2 (hA q (Nat.lt_of_lt_of_le h1 hS.1) z))]; exact hS.2.1 q h1 h2, fun q hq => by
      rcases List.mem_append.mp hq with h | h
      · exact hS.2.2 q h
      · exact hf _ (hL q h)⟩⟩
theorem vx_calli {S SX : Type} {post : Int32 → S → Prop} {px : SX → Prop} {B : S → State → Prop} {BX : String → SX → State → Prop} {AX : Nat → Prop} (hr : vx_Run p l e R s m args below meth c H locs cells slots mc ms (F0 m pc ls st0) rest (va_Qi post B A1 a) (vx_X px BX AX) free) (hS : va_S A0 H0 H locs) (hA : ∀ q, q < H.size → A1 q → A0 q) (hf : ∀ q, free q → A0 q) (hAX : ∀ q, q < H.size → AX q → A0 q)
    (kx : ∀ (E : String) (ce : Cell) (q9 : Addr) (u : SX) (t : State) (H1 : Heap) (locs1 : List Loc), t.heap = H1 → s.vm.Alike t.vm → px u → BX E u t → H.size ≤ H1.size → (∀ q : Nat, q < H.size → ¬ AX q → H1[q]? = H[q]?) → va_S A0 H0 H1 locs1 → H1[q9]? = some ce → ce.vm = .none → s.vm.findClass E = some ce.cls → vx_W p l e R s m args below meth c H1 locs1 (cells + mc) (slots + ms) Q (F0 m pc ls rest) q9)
    (kk : ∀ (r : Int32) (u : S) (t : State) (H1 : Heap) (locs1 : List Loc), t.heap = H1 → s.vm.Alike t.vm → post r u → B u t → H.size ≤ H1.size → (∀ q : Nat, q < H.size → ¬ A1 q → H1[q]? = H[q]?) → va_S A0 H0 H1 locs1 → W p l e R s m args below meth c H1 locs1 (cells + mc) (slots + ms) Q (F0 m (pc + 3) ls (.int r :: rest))) : W p l e R s m args below meth c H locs cells slots Q (F0 m pc ls st0) := by
  intro T hT X
  rcases hr T hT X with ⟨v, st₀, t, T', L, h0, X', hL, e1, e2, ⟨⟨r, u, hv, hp, hb⟩, hF⟩, st⟩ | ⟨q, st₀, t, T', L, E, ce, h0, X', hL, e1, e2, ⟨u, hp, hb, hF⟩, hce, hcv, hcl, st⟩
  · cases hv
    obtain ⟨k1, k2, k3⟩ := vx_keep h0 e1 hS hA hf hL hF
    obtain ⟨t2, a1, b1⟩ := kk r u t T'.heap (locs ++ L) e1.symm (by rw [← e2]; exact X'.warmed.alike) hp hb k1 k2 k3 T' rfl X'
    exact ⟨t2, st t2 a1, b1⟩
  · obtain ⟨k1, k2, k3⟩ := vx_keep h0 e1 hS hAX hf hL hF
    obtain ⟨t2, a1, b1⟩ := kx E ce q u t T'.heap (locs ++ L) e1.symm (by rw [← e2]; exact X'.warmed.alike) hp hb k1 k2 k3 (by rw [e1]; exact hce) hcv hcl T' rfl X'
    exact ⟨t2, st.trans a1, b1⟩
theorem vx_calll {S SX : Type} {post : Int64 → S → Prop} {px : SX → Prop} {B : S → State → Prop} {BX : String → SX → State → Prop} {AX : Nat → Prop} (hr : vx_Run p l e R s m args below meth c H locs cells slots mc ms (F0 m pc ls st0) rest (va_Ql post B A1 a) (vx_X px BX AX) free) (hS : va_S A0 H0 H locs) (hA : ∀ q, q < H.size → A1 q → A0 q) (hf : ∀ q, free q → A0 q) (hAX : ∀ q, q < H.size → AX q → A0 q)
    (kx : ∀ (E : String) (ce : Cell) (q9 : Addr) (u : SX) (t : State) (H1 : Heap) (locs1 : List Loc), t.heap = H1 → s.vm.Alike t.vm → px u → BX E u t → H.size ≤ H1.size → (∀ q : Nat, q < H.size → ¬ AX q → H1[q]? = H[q]?) → va_S A0 H0 H1 locs1 → H1[q9]? = some ce → ce.vm = .none → s.vm.findClass E = some ce.cls → vx_W p l e R s m args below meth c H1 locs1 (cells + mc) (slots + ms) Q (F0 m pc ls rest) q9)
    (kk : ∀ (r : Int64) (u : S) (t : State) (H1 : Heap) (locs1 : List Loc), t.heap = H1 → s.vm.Alike t.vm → post r u → B u t → H.size ≤ H1.size → (∀ q : Nat, q < H.size → ¬ A1 q → H1[q]? = H[q]?) → va_S A0 H0 H1 locs1 → W p l e R s m args below meth c H1 locs1 (cells + mc) (slots + ms) Q (F0 m (pc + 3) ls (.long r :: rest))) : W p l e R s m args below meth c H locs cells slots Q (F0 m pc ls st0) := by
  intro T hT X
  rcases hr T hT X with ⟨v, st₀, t, T', L, h0, X', hL, e1, e2, ⟨⟨r, u, hv, hp, hb⟩, hF⟩, st⟩ | ⟨q, st₀, t, T', L, E, ce, h0, X', hL, e1, e2, ⟨u, hp, hb, hF⟩, hce, hcv, hcl, st⟩
  · cases hv
    obtain ⟨k1, k2, k3⟩ := vx_keep h0 e1 hS hA hf hL hF
    obtain ⟨t2, a1, b1⟩ := kk r u t T'.heap (locs ++ L) e1.symm (by rw [← e2]; exact X'.warmed.alike) hp hb k1 k2 k3 T' rfl X'
    exact ⟨t2, st t2 a1, b1⟩
  · obtain ⟨k1, k2, k3⟩ := vx_keep h0 e1 hS hAX hf hL hF
    obtain ⟨t2, a1, b1⟩ := kx E ce q u t T'.heap (locs ++ L) e1.symm (by rw [← e2]; exact X'.warmed.alike) hp hb k1 k2 k3 (by rw [e1]; exact hce) hcv hcl T' rfl X'
    exact ⟨t2, st.trans a1, b1⟩
theorem vx_callf {S SX : Type} {post : UInt32 → S → Prop} {px : SX → Prop} {B : S → State → Prop} {BX : String → SX → State → Prop} {AX : Nat → Prop} (hr : vx_Run p l e R s m args below meth c H locs cells slots mc ms (F0 m pc ls st0) rest (va_Qf post B A1 a) (vx_X px BX AX) free) (hS : va_S A0 H0 H locs) (hA : ∀ q, q < H.size → A1 q → A0 q) (hf : ∀ q, free q → A0 q) (hAX : ∀ q, q < H.size → AX q → A0 q)
    (kx : ∀ (E : String) (ce : Cell) (q9 : Addr) (u : SX) (t : State) (H1 : Heap) (locs1 : List Loc), t.heap = H1 → s.vm.Alike t.vm → px u → BX E u t → H.size ≤ H1.size → (∀ q : Nat, q < H.size → ¬ AX q → H1[q]? = H[q]?) → va_S A0 H0 H1 locs1 → H1[q9]? = some ce → ce.vm = .none → s.vm.findClass E = some ce.cls → vx_W p l e R s m args below meth c H1 locs1 (cells + mc) (slots + ms) Q (F0 m pc ls rest) q9)
    (kk : ∀ (r : UInt32) (u : S) (t : State) (H1 : Heap) (locs1 : List Loc), t.heap = H1 → s.vm.Alike t.vm → post r u → B u t → H.size ≤ H1.size → (∀ q : Nat, q < H.size → ¬ A1 q → H1[q]? = H[q]?) → va_S A0 H0 H1 locs1 → W p l e R s m args below meth c H1 locs1 (cells + mc) (slots + ms) Q (F0 m (pc + 3) ls (.float r :: rest))) : W p l e R s m args below meth c H locs cells slots Q (F0 m pc ls st0) := by
  intro T hT X
  rcases hr T hT X with ⟨v, st₀, t, T', L, h0, X', hL, e1, e2, ⟨⟨r, u, hv, hp, hb⟩, hF⟩, st⟩ | ⟨q, st₀, t, T', L, E, ce, h0, X', hL, e1, e2, ⟨u, hp, hb, hF⟩, hce, hcv, hcl, st⟩
  · cases hv
    obtain ⟨k1, k2, k3⟩ := vx_keep h0 e1 hS hA hf hL hF
    obtain ⟨t2, a1, b1⟩ := kk r u t T'.heap (locs ++ L) e1.symm (by rw [← e2]; exact X'.warmed.alike) hp hb k1 k2 k3 T' rfl X'
    exact ⟨t2, st t2 a1, b1⟩
  · obtain ⟨k1, k2, k3⟩ := vx_keep h0 e1 hS hAX hf hL hF
    obtain ⟨t2, a1, b1⟩ := kx E ce q u t T'.heap (locs ++ L) e1.symm (by rw [← e2]; exact X'.warmed.alike) hp hb k1 k2 k3 (by rw [e1]; exact hce) hcv hcl T' rfl X'
    exact ⟨t2, st.trans a1, b1⟩
theorem vx_calld {S SX : Type} {post : UInt64 → S → Prop} {px : SX → Prop} {B : S → State → Prop} {BX : String → SX → State → Prop} {AX : Nat → Prop} (hr : vx_Run p l e R s m args below meth c H locs cells slots mc ms (F0 m pc ls st0) rest (va_Qd post B A1 a) (vx_X px BX AX) free) (hS : va_S A0 H0 H locs) (hA : ∀ q, q < H.size → A1 q → A0 q) (hf : ∀ q, free q → A0 q) (hAX : ∀ q, q < H.size → AX q → A0 q)
    (kx : ∀ (E : String) (ce : Cell) (q9 : Addr) (u : SX) (t : State) (H1 : Heap) (locs1 : List Loc), t.heap = H1 → s.vm.Alike t.vm → px u → BX E u t → H.size ≤ H1.size → (∀ q : Nat, q < H.size → ¬ AX q → H1[q]? = H[q]?) → va_S A0 H0 H1 locs1 → H1[q9]? = some ce → ce.vm = .none → s.vm.findClass E = some ce.cls → vx_W p l e R s m args below meth c H1 locs1 (cells + mc) (slots + ms) Q (F0 m pc ls rest) q9)
    (kk : ∀ (r : UInt64) (u : S) (t : State) (H1 : Heap) (locs1 : List Loc), t.heap = H1 → s.vm.Alike t.vm → post r u → B u t → H.size ≤ H1.size → (∀ q : Nat, q < H.size → ¬ A1 q → H1[q]? = H[q]?) → va_S A0 H0 H1 locs1 → W p l e R s m args below meth c H1 locs1 (cells + mc) (slots + ms) Q (F0 m (pc + 3) ls (.double r :: rest))) : W p l e R s m args below meth c H locs cells slots Q (F0 m pc ls st0) := by
  intro T hT X
  rcases hr T hT X with ⟨v, st₀, t, T', L, h0, X', hL, e1, e2, ⟨⟨r, u, hv, hp, hb⟩, hF⟩, st⟩ | ⟨q, st₀, t, T', L, E, ce, h0, X', hL, e1, e2, ⟨u, hp, hb, hF⟩, hce, hcv, hcl, st⟩
  · cases hv
    obtain ⟨k1, k2, k3⟩ := vx_keep h0 e1 hS hA hf hL hF
    obtain ⟨t2, a1, b1⟩ := kk r u t T'.heap (locs ++ L) e1.symm (by rw [← e2]; exact X'.warmed.alike) hp hb k1 k2 k3 T' rfl X'
    exact ⟨t2, st t2 a1, b1⟩
  · obtain ⟨k1, k2, k3⟩ := vx_keep h0 e1 hS hAX hf hL hF
    obtain ⟨t2, a1, b1⟩ := kx E ce q u t T'.heap (locs ++ L) e1.symm (by rw [← e2]; exact X'.warmed.alike) hp hb k1 k2 k3 (by rw [e1]; exact hce) hcv hcl T' rfl X'
    exact ⟨t2, st.trans a1, b1⟩
theorem vx_callv {S SX : Type} {post : S → Prop} {px : SX → Prop} {B : S → State → Prop} {BX : String → SX → State → Prop} {AX : Nat → Prop} (hr : vx_Run p l e R s m args below meth c H locs cells slots mc ms (F0 m pc ls st0) rest (va_Qv post B A1 a) (vx_X px BX AX) free) (hS : va_S A0 H0 H locs) (hA : ∀ q, q < H.size → A1 q → A0 q) (hf : ∀ q, free q → A0 q) (hAX : ∀ q, q < H.size → AX q → A0 q)
    (kx : ∀ (E : String) (ce : Cell) (q9 : Addr) (u : SX) (t : State) (H1 : Heap) (locs1 : List Loc), t.heap = H1 → s.vm.Alike t.vm → px u → BX E u t → H.size ≤ H1.size → (∀ q : Nat, q < H.size → ¬ AX q → H1[q]? = H[q]?) → va_S A0 H0 H1 locs1 → H1[q9]? = some ce → ce.vm = .none → s.vm.findClass E = some ce.cls → vx_W p l e R s m args below meth c H1 locs1 (cells + mc) (slots + ms) Q (F0 m pc ls rest) q9)
    (kk : ∀ (u : S) (t : State) (H1 : Heap) (locs1 : List Loc), t.heap = H1 → s.vm.Alike t.vm → post u → B u t → H.size ≤ H1.size → (∀ q : Nat, q < H.size → ¬ A1 q → H1[q]? = H[q]?) → va_S A0 H0 H1 locs1 → W p l e R s m args below meth c H1 locs1 (cells + mc) (slots + ms) Q (F0 m (pc + 3) ls (rest))) : W p l e R s m args below meth c H locs cells slots Q (F0 m pc ls st0) := by
  intro T hT X
  rcases hr T hT X with ⟨v, st₀, t, T', L, h0, X', hL, e1, e2, ⟨⟨u, hv, hp, hb⟩, hF⟩, st⟩ | ⟨q, st₀, t, T', L, E, ce, h0, X', hL, e1, e2, ⟨u, hp, hb, hF⟩, hce, hcv, hcl, st⟩
  · cases hv
    obtain ⟨k1, k2, k3⟩ := vx_keep h0 e1 hS hA hf hL hF
    obtain ⟨t2, a1, b1⟩ := kk u t T'.heap (locs ++ L) e1.symm (by rw [← e2]; exact X'.warmed.alike) hp hb k1 k2 k3 T' rfl X'
    exact ⟨t2, st t2 a1, b1⟩
  · obtain ⟨k1, k2, k3⟩ := vx_keep h0 e1 hS hAX hf hL hF
    obtain ⟨t2, a1, b1⟩ := kx E ce q u t T'.heap (locs ++ L) e1.symm (by rw [← e2]; exact X'.warmed.alike) hp hb k1 k2 k3 (by rw [e1]; exact hce) hcv hcl T' rfl X'
    exact ⟨t2, st.trans a1, b1⟩
/-- caught by the row x of this method's table; the rows ahead don't take it -/
theorem vx_catch {own name : String} {E : String} {ce : Cell} {q : Addr} (hown : s.vm.findClass own = some m.cls) (pre : List ExceptionTableEntry) (x : ExceptionTableEntry) (suf : List ExceptionTableEntry) (hsplit : c.exceptionTable.toList = pre ++ x :: suf)
    (hpass : ∀ z ∈ pre, covers z pc = false ∨ (z.catchType ≠ 0 ∧ ∃ nm : String, (Cond.classLink own z.catchType nm).before args s = true ∧ va_Nc E nm s)) (hx : covers x pc = true) (h0 : x.catchType ≠ 0)
    (hlink : (Cond.classLink own x.catchType name).before args s = true) (hcast : (Cond.castable E name).before args s = true) (hcell : H[q]? = some ce) (hv : ce.vm = .none) (hcl : s.vm.findClass E = some ce.cls)
    (kk : W p l e R s m args below meth c H locs cells slots Q (F0 m x.handlerPc ls [.ref q])) : vx_W p l e R s m args below meth c H locs cells slots Q (F0 m pc ls rest) q := by
  intro T hT X
  have hpl : e.platform.magicAccessors = ({} : Platform).magicAccessors := by rw [X.admits.platform]
  obtain ⟨c3, c4, hc3, hc4, hasg⟩ := Cond.castable_spec hcast
  cases Option.some.inj (hc3.symm.trans hcl)
  obtain ⟨c5, hc5, hcl5⟩ := Cond.classLink_spec hown hlink e.platform hpl
  cases Option.some.inj (hc4.symm.trans hc5)
  obtain ⟨vm', X', st⟩ := X.thenCaughtThrough q (g := F0 m pc ls rest) rfl (Steps.refl _) (by rw [hT]; exact hcell) (by rw [hv]; rfl) (by obtain ⟨k9, h9, -⟩ := Vm.findClass_spec hcl; exact ⟨k9, h9⟩) pre x suf hsplit
    (fun z hz => by
      rcases hpass z hz with h | ⟨hz0, nm, hl1, hn1⟩
      · exact Or.inl h
      · obtain ⟨c6, hc6, hcl6⟩ := Cond.classLink_spec hown hl1 e.platform hpl
        obtain ⟨a8, b8, h1, h2, h3⟩ := hn1
        cases Option.some.inj (h1.symm.trans hcl)
        cases Option.some.inj (h2.symm.trans hc6)
        exact Or.inr ⟨hz0, _, hcl6, h3⟩) hx (Or.inr ⟨h0, c4, hcl5, hasg⟩)
  obtain ⟨t, a1, b1⟩ := kk (T.setVm vm') hT X'
  exact ⟨t, st.trans a1, b1⟩
end Rows
section Ends
variable {p : Program} {l : Launch} {e : Env} {R : Room} {s : State} {m : MethodId} {args : Array Value} {below : List Frame} {meth : Method} {c : Code} {H : Heap} {locs : List Loc} {cells slots : Nat} {Q : State → Prop}
variable {mc ms : Nat} {free : Addr → Prop} {A0 A1 : Nat → Prop} {H0 : Heap} {a : Array Value} {ls : Array Slot} {st0 rest : List Value}
variable {Qc : Array Value → State → Outcome → State → Prop} {XC : String → State → State → Prop}
/-- what a body that may throw owes at its end -/
def vx_MQ (below : List Frame) (Qc : Array Value → State → Outcome → State → Prop) (XC : String → State → State → Prop) (a : Array Value) (s : State) (mc ms : Nat) (free : Addr → Prop) : State → Prop := fun t =>
  ∃ o, t.status = .running ∧ Ended t below o ∧ vx_Q Qc XC mc ms free a s o t
theorem vx_ret {g : JFrame} {mc ms : Nat} (k : W p l e R s m args below meth c H locs cells slots (MQ below Qc args s mc ms free) g) : W p l e R s m args below meth c H locs cells slots (vx_MQ below Qc XC args s mc ms free) g := by
  intro T hT X
  obtain ⟨t, a1, o, b1, b2, b3, b4⟩ := k T hT X
  exact ⟨t, a1, o, b1, b2, Or.inl ⟨b3, b4⟩⟩
/-- not caught here: it goes on to the caller -/
theorem vx_widen {g : JFrame} {q : Addr} {k n : Nat} (h1 : cells ≤ k) (h2 : slots ≤ n) (kk : vx_W p l e R s m args below meth c H locs k n Q g q) : vx_W p l e R s m args below meth c H locs cells slots Q g q := fun T hT X => kk T hT (stand_widen X h1 h2)
theorem vx_out {pc : Nat} {E : String} {ce : Cell} {q : Addr} {mc ms : Nat} (hout : ∀ x ∈ c.exceptionTable.toList, covers x pc = false) (hlocks : meth.locks = false) (hcell : H[q]? = some ce) (hv : ce.vm = .none) (hcl : s.vm.findClass E = some ce.cls)
    (hx : ∀ t : State, t.heap = H → s.vm.Alike t.vm → XC E s t) (hf : ∀ z ∈ locs, free z.base) (hc : cells ≤ mc) (hs : slots ≤ ms) :
    vx_W p l e R s m args below meth c H locs cells slots (vx_MQ below Qc XC args s mc ms free) (F0 m pc ls rest) q := by
  intro T hT X
  obtain ⟨st1, hrun, hend, hW, hsm⟩ := X.leaveThrown q (g := F0 m pc ls rest) rfl rfl rfl hout hlocks
  have hcell9 : (T.setFrames (.throwing q :: below)).heap[q]? = some ce := by
    show T.heap[q]? = some ce
    rw [hT]; exact hcell
  exact ⟨_, st1, .threw q, hrun, hend, Or.inr ⟨q, rfl, E, ce, locs, hx _ hT hW.alike, hcell9, hv, hcl, hW, hsm.mono hc hs, hf⟩⟩
theorem vx_frame {U : State} {k n : Nat} (h : s.sameButNew ({ U with vm := s.vm } : State) locs k n) : s.heap.size ≤ U.heap.size ∧ ∀ q : Nat, q < s.heap.size → (∀ z ∈ locs, z.base ≠ q) → U.heap[q]? = s.heap[q]? := by
  obtain ⟨-, h2, -, -, -, h6⟩ := h
  refine ⟨h2, fun q hq hz => ?_⟩
  obtain ⟨c9, e1, e2, e3, e4⟩ := h6 q _ (Array.getElem?_eq_getElem hq)
  have hs : c9.slots = (s.heap[q]).slots := Array.ext_getElem? fun i => e4 i fun hm => hz _ hm rfl
  have h9 : c9 = s.heap[q] := by
    rw [hs] at e2
    exact e2
  have e5 : U.heap[q]? = some c9 := e1
  rw [e5, h9, Array.getElem?_eq_getElem hq]
/-- the words of a throw but the four that speak of the heap -/
def vx_no (w : Cond) : Bool := decide (w ≠ .isRef (.static Bundle.tN "UNASSIGNED_STACK" Bundle.steD)) && decide (w ≠ .isRef (.static Bundle.tN "SUPPRESSED_SENTINEL" Bundle.listD)) && decide (w ≠ .laysStatic Bundle.tN "UNASSIGNED_STACK" Bundle.steD) && decide (w ≠ .laysStatic Bundle.tN "SUPPRESSED_SENTINEL" Bundle.listD)
def vx_at0 (own : String) (ic : Nat) (X : String) (names : List String) : List Cond := (Bundle.ownAtoms0 own ic X names).filter vx_no
def vx_atS (own : String) (ic : Nat) (X : String) (names : List String) : List Cond := (Bundle.ownAtoms own ic X names).filter vx_no
/-- a word that the tables alone decide, or a good one -/
def vx_ot (w : Cond) : Bool := w.onTables || goodWord w
theorem vx_ot_at {args a' : Array Value} {s U : State} {w : Cond} (hW : s.WarmedH U.vm) (hvm : s.vm = U.vm) (hg : vx_ot w = true) (h : w.before args s = true) : w.before a' U = true := by
  simp only [vx_ot, Bool.or_eq_true] at hg
  rcases hg with hg | hg
  · exact va_tabs hg hvm h
  · exact word_at hW (good_of_word hg) h
/-- a list's words: the good ones out of the method's own list, the others by premises of their own -/
theorem vx_hat {args : Array Value} {s : State} {L B : List Cond} (h1 : ∀ w ∈ L.filter goodWord, w.before args s = true) (h2 : ∀ w ∈ L.filter (fun w => !goodWord w), w ∈ B) (h3 : ∀ w ∈ B, w.before args s = true) : ∀ w ∈ L, w.before args s = true := by
  intro w hw
  by_cases g : goodWord w = true
  · exact h1 w (List.mem_filter.mpr ⟨hw, g⟩)
  · refine h3 w (h2 w (List.mem_filter.mpr ⟨hw, ?_⟩))
    show (!goodWord w) = true
    cases hgw : goodWord w
    · rfl
    · exact absurd hgw g
theorem vx_c {args : Array Value} {s : State} {w : Cond} {B : List Cond} (h : w.before args s = true) (t : ∀ w ∈ B, w.before args s = true) : ∀ w' ∈ w :: B, w'.before args s = true := fun w' h' => (List.mem_cons.mp h').elim (fun e => by rw [e]; exact h) (t w')
theorem vx_n {args : Array Value} {s : State} : ∀ w ∈ ([] : List Cond), w.before args s = true := fun _ h => nomatch h
theorem vx_own {args : Array Value} {s : State} {L : List Cond} (h1 : ∀ w ∈ L.filter vx_no, w.before args s = true)
    (hU : (Cond.isRef (.static Bundle.tN "UNASSIGNED_STACK" Bundle.steD)).before args s = true) (hN : (Cond.isRef (.static Bundle.tN "SUPPRESSED_SENTINEL" Bundle.listD)).before args s = true)
    (lU : (Cond.laysStatic Bundle.tN "UNASSIGNED_STACK" Bundle.steD).before args s = true) (lN : (Cond.laysStatic Bundle.tN "SUPPRESSED_SENTINEL" Bundle.listD).before args s = true) : ∀ w ∈ L, w.before args s = true := by
  intro w hw
  by_cases e1 : w = .isRef (.static Bundle.tN "UNASSIGNED_STACK" Bundle.steD)
  · rw [e1]; exact hU
  · by_cases e2 : w = .isRef (.static Bundle.tN "SUPPRESSED_SENTINEL" Bundle.listD)
    · rw [e2]; exact hN
    · by_cases e3 : w = .laysStatic Bundle.tN "UNASSIGNED_STACK" Bundle.steD
      · rw [e3]; exact lU
      · by_cases e4 : w = .laysStatic Bundle.tN "SUPPRESSED_SENTINEL" Bundle.listD
        · rw [e4]; exact lN
        · exact h1 w (List.mem_filter.mpr ⟨hw, by unfold vx_no; rw [decide_eq_true e1, decide_eq_true e2, decide_eq_true e3, decide_eq_true e4]; rfl⟩)
/-- where a static field lies, its class's statics cell in H -/
def vx_L (C n d : String) (A : Nat → Prop) (U : State) (H : Heap) : Prop := ∃ (c : ClassId) (k : Class) (i : Nat) (f : Field) (a : Nat) (cell : Cell), U.vm.findClass C = some c ∧ U.fieldFound? C n d = some (c, k, i, f) ∧ f.isStatic = true ∧ k.statics = some a ∧ H[a]? = some cell ∧ cell.vm.isStatics = true ∧ cell.cls = c ∧ f.slot < cell.slots.size ∧ k.staticTypes[f.slot]? = some f.type ∧ ¬ A a
theorem vx_L.moved {C n d : String} {A : Nat → Prop} {u U : State} {H : Heap} (hvm : u.vm.Alike U.vm) (h : vx_L C n d A u H) : vx_L C n d A U H := by
  obtain ⟨c, k, i, f, a, cell, h1, h2, h3, h4, h5, h6, h7, h8, h9, h10⟩ := h
  obtain ⟨k', hi', he⟩ := State.fieldFound?_setVm hvm h2
  exact ⟨c, k', i, f, a, cell, by rw [hvm.findClass]; exact h1, hi', h3, by rw [he]; exact h4, h5, h6, h7, h8, by rw [he]; exact h9, h10⟩
theorem vx_L.kept {C n d : String} {A : Nat → Prop} {U : State} {H H1 : Heap} (h : vx_L C n d A U H) (hq : ∀ a : Nat, a < H.size → ¬ A a → H1[a]? = H[a]?) : vx_L C n d A U H1 := by
  obtain ⟨c, k, i, f, a, cell, h1, h2, h3, h4, h5, h6, h7, h8, h9, h10⟩ := h
  exact ⟨c, k, i, f, a, cell, h1, h2, h3, h4, by rw [hq a (Array.getElem?_eq_some_iff.mp h5).1 h10]; exact h5, h6, h7, h8, h9, h10⟩
theorem vx_L.narrow {C n d : String} {A B : Nat → Prop} {U : State} {H : Heap} (h : vx_L C n d A U H) (hAB : ∀ q, B q → A q) : vx_L C n d B U H := by
  obtain ⟨c, k, i, f, a, cell, h1, h2, h3, h4, h5, h6, h7, h8, h9, h10⟩ := h
  exact ⟨c, k, i, f, a, cell, h1, h2, h3, h4, h5, h6, h7, h8, h9, fun z => h10 (hAB _ z)⟩
theorem vx_L.word {C n d : String} {A : Nat → Prop} {s : State} {args : Array Value} (h : vx_L C n d A s s.heap) : (Cond.laysStatic C n d).before args s = true := by
  obtain ⟨c, k, i, f, a, cell, h1, h2, h3, h4, h5, h6, h7, h8, h9, -⟩ := h
  show (Cond.laysStatic C n d).holds args s none s [] = true
  exact Cond.laysStatic_of h1 h2 h3 h4 h5 h6 h7 h8 h9
/-- .. and what it holds: null or some reference -/
def vx_Zq (C n d : String) (A : Nat → Prop) (U : State) (H : Heap) : Prop := va_Zq C n d A U H ∧ vx_L C n d A U H
theorem vx_Zq.moved {C n d : String} {A : Nat → Prop} {u U : State} {H : Heap} (hvm : u.vm.Alike U.vm) (h : vx_Zq C n d A u H) : vx_Zq C n d A U H := ⟨va_Zq.moved hvm h.1, vx_L.moved hvm h.2⟩
theorem vx_Zq.kept {C n d : String} {A : Nat → Prop} {U : State} {H H1 : Heap} (h : vx_Zq C n d A U H) (hq : ∀ a : Nat, a < H.size → ¬ A a → H1[a]? = H[a]?) : vx_Zq C n d A U H1 := ⟨va_Zq.kept h.1 hq, vx_L.kept h.2 hq⟩
theorem vx_Zq.narrow {C n d : String} {A B : Nat → Prop} {U : State} {H : Heap} (h : vx_Zq C n d A U H) (hAB : ∀ q, B q → A q) : vx_Zq C n d B U H := ⟨va_Zq.narrow h.1 hAB, vx_L.narrow h.2 hAB⟩
theorem vx_Zqof {args : Array Value} {s : State} {C n d : String} {A : Nat → Prop} (hl : (Cond.laysStatic C n d).before args s = true) (hini : (Cond.initialized C).before args s = true) (h : (Cond.isRef (.static C n d)).before args s = true) (hA : ∀ a : Nat, a < s.heap.size → ¬ A a) : vx_Zq C n d A s s.heap := by
  refine ⟨va_Zqof hl hini h hA, ?_⟩
  obtain ⟨c, k, i, f, a, cell, h1, h2, h3, h4, h5, h6, h7, h8, h9⟩ := Cond.laysStatic_spec hl
  exact ⟨c, k, i, f, a, cell, h1, h2, h3, h4, h5, h6, h7, h8, h9, hA a (Array.getElem?_eq_some_iff.mp h5).1⟩
theorem vx_isRef {C n d : String} {v : Value} {A : Nat → Prop} {s : State} {args : Array Value} (h : va_Z C n d v A s s.heap) (hv : v.isRef = true) : (Cond.isRef (.static C n d)).before args s = true := by
  obtain ⟨cf, kf, fi, f, a, cell, h1, h2, h3, h4, h5, h6, h7, -⟩ := h
  have he : (Term.static C n d).eval args s none [] s = some v := by
    simp [Term.eval, State.fieldNamed?, h1, h2, h4, h5, h6, h7]
  simp only [Cond.before, Cond.holds, Cond.value, he]
  cases v <;> simp_all [Value.isRef]
theorem vx_isRefq {C n d : String} {A : Nat → Prop} {s : State} {args : Array Value} (h : va_Zq C n d A s s.heap) : (Cond.isRef (.static C n d)).before args s = true := by
  rcases h with h | ⟨t, h⟩
  · exact vx_isRef h rfl
  · exact vx_isRef h rfl
/-- the same frame, seen from here: as if the method were called anew in this heap -/
theorem vx_rebase {T : State} (X : Stand p l e R s m args below meth c T locs cells slots) {R' : Room} (hf : R'.frames ≤ R.frames) (hl : R'.locals ≤ R.locals) (hc : cells + R'.cells ≤ R.cells) (hs : slots + R'.slots ≤ R.slots) :
    Stand p l e R' ((T.setVm s.vm).setFrames (.invoking m args :: below)) m args below meth c T [] 0 0 := by
  have htop : (T.setVm s.vm).topJava?.isSome := X.here.top
  have hF : ((T.setVm s.vm).setFrames (.invoking m args :: below)).frames = .invoking m args :: below := State.frames_setFrames _ (State.cur_lt_of_top htop)
  obtain ⟨g₀, hg0⟩ := Option.isSome_iff_exists.mp htop
  obtain ⟨r, hr⟩ := State.topJava?_eq_some.mp hg0
  have hl9 : e.platform.stackLimits (T.setVm s.vm).me = e.platform.stackLimits s.me := X.limits
  have hb9 : (T.setVm s.vm).me.stackBytes = s.me.stackBytes := X.bytes
  refine ⟨X.admits, X.cas, X.clock, hF, ?_, X.hears, X.method, X.code, X.here, X.tail, X.warmed, ?_, ?_, ?_⟩
  · have h := X.room
    have hU : ((T.setVm s.vm).setFrames (.invoking m args :: below)).localsInUse = s.localsInUse := by
      rw [State.localsInUse_invoking hF (meth := meth) (c := c) X.method X.code, State.localsInUse_invoking X.frames X.method X.code]
    simp only [State.hasRoom, Bool.and_eq_true, decide_eq_true_eq] at h ⊢
    obtain ⟨⟨⟨⟨h1, h2, h3, h4, h5, h6⟩, h7⟩, h8⟩, h9⟩ := h
    rw [X.frames, List.length_cons] at h2 h3
    have q1 := X.heapSize
    have q2 := X.used
    simp only [hF, hU, List.length_cons, State.stackLimits_setFrames, State.stackBytes_setFrames, hl9, hb9]
    refine ⟨⟨⟨⟨by omega, by omega, by omega, by omega, by omega, h6⟩, ?_⟩, ?_⟩, X.book⟩
    · show T.heap.size + R'.cells ≤ e.platform.maxCells
      omega
    · show T.slotsUsed + R'.slots ≤ e.platform.maxSlots
      omega
  · rw [State.stackLimits_setFrames]; rfl
  · rw [State.stackBytes_setFrames]; rfl
  · refine ⟨?_, Nat.le_refl _, Nat.le_refl _, ?_, ?_, fun a c9 h9 => ⟨c9, h9, rfl, rfl, fun _ _ => rfl⟩⟩
    · obtain ⟨t, ht, -⟩ := State.frames_cons hr
      show T.setVm s.vm = { ((T.setVm s.vm).setFrames (.invoking m args :: below)).setFrames (T.setVm s.vm).frames with heap := T.heap, slotsUsed := T.slotsUsed }
      rw [State.setFrames_setFrames, State.setFrames_self ht]
      rfl
    · show T.slotsUsed = T.slotsUsed + ((T.heap.toList.drop T.heap.size).map (·.slots.size)).sum
      rw [List.drop_eq_nil_of_le (Nat.le_of_eq Array.length_toList)]
      rfl
    · show ((T.heap.toList.drop T.heap.size).map (·.slots.size)).sum ≤ 0
      rw [List.drop_eq_nil_of_le (Nat.le_of_eq Array.length_toList)]
      exact Nat.le_refl _
/-- 'throw new E()': new; dup; invokespecial; athrow -/
theorem vx_throw0 {cc : ByteArray} {pc : Nat} (hexec : p.tables.exec = Jvm.exec) (hb : c.code = cc) (hl : l.stackTraces = false) {own cls : String} {names : List String} {ik ic mc ms : Nat} {A : Nat → Prop}
    (hown : s.vm.findClass own = some m.cls) (hcls : Bundle.fit cls = true) (hnames : ∀ n ∈ names, Bundle.fit n = true)
    (hk : (Cond.classLink own ik cls).before args s = true) (hini : (Cond.initialized cls).before args s = true) (hat : ∀ w ∈ vx_at0 own ic cls names, w.before args s = true)
    (hgood : ∀ w ∈ Cond.classLink own ik cls :: Cond.initialized cls :: vx_at0 own ic cls names, vx_ot w = true)
    (hU : vx_Zq Bundle.tN "UNASSIGNED_STACK" Bundle.steD A s s.heap) (hN : vx_Zq Bundle.tN "SUPPRESSED_SENTINEL" Bundle.listD A s s.heap) (hS : va_S A s.heap H locs) (hsize : ls.size = c.maxLocals)
    (d0 : decode cc pc = .ok (.new ik, 3)) (d3 : decode cc (pc + 3) = .ok (.dup, 1)) (d4 : decode cc (pc + 4) = .ok (.invokespecial ic, 3)) (d7 : decode cc (pc + 7) = .ok (.athrow, 1))
    (hout : ∀ x ∈ c.exceptionTable.toList, covers x (pc + 7) = false)
    (hRframes : names.length + 3 < R.frames) (hRlocals : (rest.map fun v => v.category).sum + (13 * (names.length + 1) + 42) ≤ R.locals) (hRcells : cells + 1 ≤ R.cells) (hRslots : slots + 6 ≤ R.slots) (hlocks : meth.locks = false)
    (hx : ∀ t : State, s.vm.Alike t.vm → H.size ≤ t.heap.size → (∀ q : Nat, q < H.size → t.heap[q]? = H[q]?) → XC cls s t)
    (hf : ∀ z ∈ locs, free z.base) (hc : cells + 1 ≤ mc) (hs : slots + 6 ≤ ms) :
    W p l e R s m args below meth c H locs cells slots (vx_MQ below Qc XC args s mc ms free) (F0 m pc ls rest) := by
  intro T hT X
  have htr : e.platform.stackTraces = false := (show e.platform.stackTraces = l.stackTraces by rw [X.admits.platform]).trans hl
  have Y := vx_rebase X (R' := { frames := R.frames, locals := R.locals, cells := 1, slots := 6 }) (Nat.le_refl _) (Nat.le_refl _) hRcells hRslots
  obtain ⟨s', hA⟩ : ∃ z, z = (T.setVm s.vm).setFrames (.invoking m args :: below) := ⟨_, rfl⟩
  rw [← hA] at Y
  have hvm : s'.vm = s.vm := by rw [hA]; rfl
  have hhp : s'.heap = H := by rw [hA]; exact hT
  have hW0 : s.WarmedH s'.vm := by rw [hvm]; exact State.WarmedH.refl s
  have hat' : ∀ w ∈ vx_at0 own ic cls names, w.before args s' = true := fun w hw => vx_ot_at hW0 hvm.symm (hgood w (List.mem_cons_of_mem _ (List.mem_cons_of_mem _ hw))) (hat w hw)
  have hk' : (Cond.classLink own ik cls).before args s' = true := vx_ot_at hW0 hvm.symm (hgood _ List.mem_cons_self) hk
  have hini' : (Cond.initialized cls).before args s' = true := vx_ot_at hW0 hvm.symm (hgood _ (List.mem_cons_of_mem _ List.mem_cons_self)) hini
  have hU' : vx_Zq Bundle.tN "UNASSIGNED_STACK" Bundle.steD A s' s'.heap := by rw [hhp]; exact vx_Zq.moved hW0.alike (hU.kept hS.2.1)
  have hN' : vx_Zq Bundle.tN "SUPPRESSED_SENTINEL" Bundle.listD A s' s'.heap := by rw [hhp]; exact vx_Zq.moved hW0.alike (hN.kept hS.2.1)
  have h : ∀ w ∈ Bundle.ownAtoms0 own ic cls names, w.before args s' = true := vx_own hat' (vx_isRefq hU'.1) (vx_isRefq hN'.1) hU'.2.word hN'.2.word
  have hown' : s'.vm.findClass own = some m.cls := by rw [hvm]; exact hown
  have hins : (Cond.instantiable cls 6).before args s' = true := h _ (by simp [Bundle.ownAtoms0])
  obtain ⟨vm₁, cX, kX, hfX, hkX, -, -, X₁, st1⟩ := Y.newCold hexec (own := own) (C := cls) (index := ik) (n := 6) hown' hk' hins hini'
    (g := F0 m pc ls rest) rfl (by rw [hb]; exact d0) (Nat.le_refl _) (Nat.le_refl _)
  generalize hT1 : (T.setVm vm₁).pushCell { cls := cX, slots := kX.instanceTypes.map defaultValue, vm := .none } = T1 at X₁ st1
  have hcat : (Value.ref T.heap.size).category = 1 := rfl
  have hcellA : T1.heap[T.heap.size]? = some (freshCell cX kX) := by rw [← hT1]; exact State.heap_pushCell_size _ _
  have d3' : decode c.code (pc + 3) = .ok (.dup, 1) := by rw [hb]; exact d3
  obtain ⟨U, hsteps, hrun, hend, hW, hsame, ce, hce, hO⟩ := X₁.ctorThrow0 hexec htr (own := own) (cls := cls) (names := names) (ic := ic) hown' hcls hnames h (fun x hx => nomatch hx) hfX hkX hcellA (by rw [hhp, hT]; exact Nat.le_refl _)
    (g := { method := m, pc := pc + 4, locals := ls, stack := .ref T.heap.size :: .ref T.heap.size :: rest, locked := none }) rfl hsize rfl rfl (rest := rest) rfl
    (by rw [hb]; exact d4) (by rw [hb]; exact d7) hout hRframes (by simp only [List.map_cons, List.sum_cons, hcat]; omega) hlocks
  obtain ⟨f1, f2⟩ := vx_frame hsame
  rw [hhp] at f1 f2
  have hWs : s.WarmedH U.vm := State.WarmedH.trans hW0 hW
  have hcl : s.vm.findClass cls = some ce.cls := by
    have h9 := hO.cls
    rw [hvm] at h9
    exact h9
  have hall : s.sameButNew ({ U with vm := s.vm } : State) locs mc ms := by
    subst hA
    obtain ⟨e1, e2⟩ := hsame
    rw [State.setFrames_setFrames] at e1
    have h2 : (T.setVm s.vm).sameButNew ({ U with vm := s.vm } : State) [] (0 + 1) (0 + 6) := ⟨e1, e2⟩
    have h3 := X.same.trans h2
    rw [List.append_nil] at h3
    exact h3.mono hc hs
  refine ⟨U, ?_, .threw T.heap.size, hrun, hend, Or.inr ⟨T.heap.size, rfl, cls, ce, locs, hx U hWs.alike f1 (fun q hq => f2 q hq (fun z hz => nomatch hz)), hce, hO.vm, hcl, hWs, hall, hf⟩⟩
  refine st1 _ ?_
  show Steps p.tables e below (T1.setTop { method := m, pc := pc + 3, locals := ls, stack := .ref T.heap.size :: rest, locked := none }) _
  jvm_step X₁.here [X₁.here.top, hexec, d3', Value.category]
  exact hsteps
/-- 'throw new E("text")': new; dup; ldc; invokespecial; athrow -/
theorem vx_throwS {cc : ByteArray} {pc : Nat} (hexec : p.tables.exec = Jvm.exec) (hb : c.code = cc) (hl : l.stackTraces = false) {own cls text : String} {names : List String} {ik is ic mc ms sa : Nat} {A : Nat → Prop}
    (hown : s.vm.findClass own = some m.cls) (hcls : Bundle.fit cls = true) (hnames : ∀ n ∈ names, Bundle.fit n = true)
    (hk : (Cond.classLink own ik cls).before args s = true) (hini : (Cond.initialized cls).before args s = true) (hstr : vk_R own is text sa s) (hat : ∀ w ∈ vx_atS own ic cls names, w.before args s = true)
    (hgood : ∀ w ∈ Cond.classLink own ik cls :: Cond.initialized cls :: vx_atS own ic cls names, vx_ot w = true)
    (hU : vx_Zq Bundle.tN "UNASSIGNED_STACK" Bundle.steD A s s.heap) (hN : vx_Zq Bundle.tN "SUPPRESSED_SENTINEL" Bundle.listD A s s.heap) (hS : va_S A s.heap H locs) (hsize : ls.size = c.maxLocals)
    (d0 : decode cc pc = .ok (.new ik, 3)) (d3 : decode cc (pc + 3) = .ok (.dup, 1)) (d4 : decode cc (pc + 4) = .ok (.ldc is, 2)) (d6 : decode cc (pc + 6) = .ok (.invokespecial ic, 3)) (d9 : decode cc (pc + 9) = .ok (.athrow, 1))
    (hout : ∀ x ∈ c.exceptionTable.toList, covers x (pc + 9) = false)
    (hRframes : names.length + 3 < R.frames) (hRlocals : (rest.map fun v => v.category).sum + (13 * (names.length + 1) + 43) ≤ R.locals) (hRcells : cells + 1 ≤ R.cells) (hRslots : slots + 6 ≤ R.slots) (hlocks : meth.locks = false)
    (hx : ∀ t : State, s.vm.Alike t.vm → H.size ≤ t.heap.size → (∀ q : Nat, q < H.size → t.heap[q]? = H[q]?) → XC cls s t)
    (hf : ∀ z ∈ locs, free z.base) (hc : cells + 1 ≤ mc) (hs : slots + 6 ≤ ms) :
    W p l e R s m args below meth c H locs cells slots (vx_MQ below Qc XC args s mc ms free) (F0 m pc ls rest) := by
  intro T hT X
  have htr : e.platform.stackTraces = false := (show e.platform.stackTraces = l.stackTraces by rw [X.admits.platform]).trans hl
  have Y := vx_rebase X (R' := { frames := R.frames, locals := R.locals, cells := 1, slots := 6 }) (Nat.le_refl _) (Nat.le_refl _) hRcells hRslots
  obtain ⟨s', hA⟩ : ∃ z, z = (T.setVm s.vm).setFrames (.invoking m args :: below) := ⟨_, rfl⟩
  rw [← hA] at Y
  have hvm : s'.vm = s.vm := by rw [hA]; rfl
  have hhp : s'.heap = H := by rw [hA]; exact hT
  have hW0 : s.WarmedH s'.vm := by rw [hvm]; exact State.WarmedH.refl s
  have hat' : ∀ w ∈ vx_atS own ic cls names, w.before args s' = true := fun w hw => vx_ot_at hW0 hvm.symm (hgood w (List.mem_cons_of_mem _ (List.mem_cons_of_mem _ hw))) (hat w hw)
  have hk' : (Cond.classLink own ik cls).before args s' = true := vx_ot_at hW0 hvm.symm (hgood _ List.mem_cons_self) hk
  have hini' : (Cond.initialized cls).before args s' = true := vx_ot_at hW0 hvm.symm (hgood _ (List.mem_cons_of_mem _ List.mem_cons_self)) hini
  have hU' : vx_Zq Bundle.tN "UNASSIGNED_STACK" Bundle.steD A s' s'.heap := by rw [hhp]; exact vx_Zq.moved hW0.alike (hU.kept hS.2.1)
  have hN' : vx_Zq Bundle.tN "SUPPRESSED_SENTINEL" Bundle.listD A s' s'.heap := by rw [hhp]; exact vx_Zq.moved hW0.alike (hN.kept hS.2.1)
  have h : ∀ w ∈ Bundle.ownAtoms own ic cls names, w.before args s' = true := vx_own hat' (vx_isRefq hU'.1) (vx_isRefq hN'.1) hU'.2.word hN'.2.word
  have hown' : s'.vm.findClass own = some m.cls := by rw [hvm]; exact hown
  have hins : (Cond.instantiable cls 6).before args s' = true := h _ (by simp [Bundle.ownAtoms])
  obtain ⟨vm₁, cX, kX, hfX, hkX, -, -, X₁, st1⟩ := Y.newCold hexec (own := own) (C := cls) (index := ik) (n := 6) hown' hk' hins hini'
    (g := F0 m pc ls rest) rfl (by rw [hb]; exact d0) (Nat.le_refl _) (Nat.le_refl _)
  generalize hT1 : (T.setVm vm₁).pushCell { cls := cX, slots := kX.instanceTypes.map defaultValue, vm := .none } = T1 at X₁ st1
  have hcat : (Value.ref T.heap.size).category = 1 := rfl
  have hcellA : T1.heap[T.heap.size]? = some (freshCell cX kX) := by rw [← hT1]; exact State.heap_pushCell_size _ _
  have d3' : decode c.code (pc + 3) = .ok (.dup, 1) := by rw [hb]; exact d3
  have d4' : decode c.code (pc + 4) = .ok (.ldc is, 2) := by rw [hb]; exact d4
  have hstr' : vk_R own is text sa s' := vk_R.warm hW0 hstr
  obtain ⟨U, hsteps, hrun, hend, hW, hsame, ce, hce, hO⟩ := X₁.ctorThrowS hexec htr (own := own) (cls := cls) (names := names) (ic := ic) hown' hcls hnames h (fun x hx => nomatch hx) hfX hkX hcellA (by rw [hhp, hT]; exact Nat.le_refl _) (msg := .ref sa) rfl
    (g := { method := m, pc := pc + 6, locals := ls, stack := .ref sa :: .ref T.heap.size :: .ref T.heap.size :: rest, locked := none }) rfl hsize rfl rfl (rest := rest) rfl
    (by rw [hb]; exact d6) (by rw [hb]; exact d9) hout hRframes (by simp only [List.map_cons, List.sum_cons, hcat]; omega) hlocks
  obtain ⟨f1, f2⟩ := vx_frame hsame
  rw [hhp] at f1 f2
  have hWs : s.WarmedH U.vm := State.WarmedH.trans hW0 hW
  have hcl : s.vm.findClass cls = some ce.cls := by
    have h9 := hO.cls
    rw [hvm] at h9
    exact h9
  have hall : s.sameButNew ({ U with vm := s.vm } : State) locs mc ms := by
    subst hA
    obtain ⟨e1, e2⟩ := hsame
    rw [State.setFrames_setFrames] at e1
    have h2 : (T.setVm s.vm).sameButNew ({ U with vm := s.vm } : State) [] (0 + 1) (0 + 6) := ⟨e1, e2⟩
    have h3 := X.same.trans h2
    rw [List.append_nil] at h3
    exact h3.mono hc hs
  refine ⟨U, ?_, .threw T.heap.size, hrun, hend, Or.inr ⟨T.heap.size, rfl, cls, ce, locs, hx U hWs.alike f1 (fun q hq => f2 q hq (fun z hz => nomatch hz)), hce, hO.vm, hcl, hWs, hall, hf⟩⟩
  refine st1 _ ?_
  show Steps p.tables e below (T1.setTop { method := m, pc := pc + 3, locals := ls, stack := .ref T.heap.size :: rest, locked := none }) _
  jvm_step X₁.here [X₁.here.top, hexec, d3', Value.category]
  exact X₁.ldcString hexec (own := own) (text := text) (index := is) (a := sa) hown' hstr'.1 hstr'.2
    (g := { method := m, pc := pc + 4, locals := ls, stack := .ref T.heap.size :: .ref T.heap.size :: rest, locked := none }) rfl d4' _ hsteps
/-- 'throw new E("text")', the text by a wide index -/
theorem vx_throwSW {cc : ByteArray} {pc : Nat} (hexec : p.tables.exec = Jvm.exec) (hb : c.code = cc) (hl : l.stackTraces = false) {own cls text : String} {names : List String} {ik is ic mc ms sa : Nat} {A : Nat → Prop}
    (hown : s.vm.findClass own = some m.cls) (hcls : Bundle.fit cls = true) (hnames : ∀ n ∈ names, Bundle.fit n = true)
    (hk : (Cond.classLink own ik cls).before args s = true) (hini : (Cond.initialized cls).before args s = true) (hstr : vk_R own is text sa s) (hat : ∀ w ∈ vx_atS own ic cls names, w.before args s = true)
    (hgood : ∀ w ∈ Cond.classLink own ik cls :: Cond.initialized cls :: vx_atS own ic cls names, vx_ot w = true)
    (hU : vx_Zq Bundle.tN "UNASSIGNED_STACK" Bundle.steD A s s.heap) (hN : vx_Zq Bundle.tN "SUPPRESSED_SENTINEL" Bundle.listD A s s.heap) (hS : va_S A s.heap H locs) (hsize : ls.size = c.maxLocals)
    (d0 : decode cc pc = .ok (.new ik, 3)) (d3 : decode cc (pc + 3) = .ok (.dup, 1)) (d4 : decode cc (pc + 4) = .ok (.ldc_w is, 3)) (d7 : decode cc (pc + 7) = .ok (.invokespecial ic, 3)) (d10 : decode cc (pc + 10) = .ok (.athrow, 1))
    (hout : ∀ x ∈ c.exceptionTable.toList, covers x (pc + 10) = false)
    (hRframes : names.length + 3 < R.frames) (hRlocals : (rest.map fun v => v.category).sum + (13 * (names.length + 1) + 43) ≤ R.locals) (hRcells : cells + 1 ≤ R.cells) (hRslots : slots + 6 ≤ R.slots) (hlocks : meth.locks = false)
    (hx : ∀ t : State, s.vm.Alike t.vm → H.size ≤ t.heap.size → (∀ q : Nat, q < H.size → t.heap[q]? = H[q]?) → XC cls s t)
    (hf : ∀ z ∈ locs, free z.base) (hc : cells + 1 ≤ mc) (hs : slots + 6 ≤ ms) :
    W p l e R s m args below meth c H locs cells slots (vx_MQ below Qc XC args s mc ms free) (F0 m pc ls rest) := by
  intro T hT X
  have htr : e.platform.stackTraces = false := (show e.platform.stackTraces = l.stackTraces by rw [X.admits.platform]).trans hl
  have Y := vx_rebase X (R' := { frames := R.frames, locals := R.locals, cells := 1, slots := 6 }) (Nat.le_refl _) (Nat.le_refl _) hRcells hRslots
  obtain ⟨s', hA⟩ : ∃ z, z = (T.setVm s.vm).setFrames (.invoking m args :: below) := ⟨_, rfl⟩
  rw [← hA] at Y
  have hvm : s'.vm = s.vm := by rw [hA]; rfl
  have hhp : s'.heap = H := by rw [hA]; exact hT
  have hW0 : s.WarmedH s'.vm := by rw [hvm]; exact State.WarmedH.refl s
  have hat' : ∀ w ∈ vx_atS own ic cls names, w.before args s' = true := fun w hw => vx_ot_at hW0 hvm.symm (hgood w (List.mem_cons_of_mem _ (List.mem_cons_of_mem _ hw))) (hat w hw)
  have hk' : (Cond.classLink own ik cls).before args s' = true := vx_ot_at hW0 hvm.symm (hgood _ List.mem_cons_self) hk
  have hini' : (Cond.initialized cls).before args s' = true := vx_ot_at hW0 hvm.symm (hgood _ (List.mem_cons_of_mem _ List.mem_cons_self)) hini
  have hU' : vx_Zq Bundle.tN "UNASSIGNED_STACK" Bundle.steD A s' s'.heap := by rw [hhp]; exact vx_Zq.moved hW0.alike (hU.kept hS.2.1)
  have hN' : vx_Zq Bundle.tN "SUPPRESSED_SENTINEL" Bundle.listD A s' s'.heap := by rw [hhp]; exact vx_Zq.moved hW0.alike (hN.kept hS.2.1)
  have h : ∀ w ∈ Bundle.ownAtoms own ic cls names, w.before args s' = true := vx_own hat' (vx_isRefq hU'.1) (vx_isRefq hN'.1) hU'.2.word hN'.2.word
  have hown' : s'.vm.findClass own = some m.cls := by rw [hvm]; exact hown
  have hins : (Cond.instantiable cls 6).before args s' = true := h _ (by simp [Bundle.ownAtoms])
  obtain ⟨vm₁, cX, kX, hfX, hkX, -, -, X₁, st1⟩ := Y.newCold hexec (own := own) (C := cls) (index := ik) (n := 6) hown' hk' hins hini'
    (g := F0 m pc ls rest) rfl (by rw [hb]; exact d0) (Nat.le_refl _) (Nat.le_refl _)
  generalize hT1 : (T.setVm vm₁).pushCell { cls := cX, slots := kX.instanceTypes.map defaultValue, vm := .none } = T1 at X₁ st1
  have hcat : (Value.ref T.heap.size).category = 1 := rfl
  have hcellA : T1.heap[T.heap.size]? = some (freshCell cX kX) := by rw [← hT1]; exact State.heap_pushCell_size _ _
  have d3' : decode c.code (pc + 3) = .ok (.dup, 1) := by rw [hb]; exact d3
  have d4' : decode c.code (pc + 4) = .ok (.ldc_w is, 3) := by rw [hb]; exact d4
  have hstr' : vk_R own is text sa s' := vk_R.warm hW0 hstr
  obtain ⟨U, hsteps, hrun, hend, hW, hsame, ce, hce, hO⟩ := X₁.ctorThrowS hexec htr (own := own) (cls := cls) (names := names) (ic := ic) hown' hcls hnames h (fun x hx => nomatch hx) hfX hkX hcellA (by rw [hhp, hT]; exact Nat.le_refl _) (msg := .ref sa) rfl
    (g := { method := m, pc := pc + 7, locals := ls, stack := .ref sa :: .ref T.heap.size :: .ref T.heap.size :: rest, locked := none }) rfl hsize rfl rfl (rest := rest) rfl
    (by rw [hb]; exact d7) (by rw [hb]; exact d10) hout hRframes (by simp only [List.map_cons, List.sum_cons, hcat]; omega) hlocks
  obtain ⟨f1, f2⟩ := vx_frame hsame
  rw [hhp] at f1 f2
  have hWs : s.WarmedH U.vm := State.WarmedH.trans hW0 hW
  have hcl : s.vm.findClass cls = some ce.cls := by
    have h9 := hO.cls
    rw [hvm] at h9
    exact h9
  have hall : s.sameButNew ({ U with vm := s.vm } : State) locs mc ms := by
    subst hA
    obtain ⟨e1, e2⟩ := hsame
    rw [State.setFrames_setFrames] at e1
    have h2 : (T.setVm s.vm).sameButNew ({ U with vm := s.vm } : State) [] (0 + 1) (0 + 6) := ⟨e1, e2⟩
    have h3 := X.same.trans h2
    rw [List.append_nil] at h3
    exact h3.mono hc hs
  refine ⟨U, ?_, .threw T.heap.size, hrun, hend, Or.inr ⟨T.heap.size, rfl, cls, ce, locs, hx U hWs.alike f1 (fun q hq => f2 q hq (fun z hz => nomatch hz)), hce, hO.vm, hcl, hWs, hall, hf⟩⟩
  refine st1 _ ?_
  show Steps p.tables e below (T1.setTop { method := m, pc := pc + 3, locals := ls, stack := .ref T.heap.size :: rest, locked := none }) _
  jvm_step X₁.here [X₁.here.top, hexec, d3', Value.category]
  exact X₁.ldcStringW hexec (own := own) (text := text) (index := is) (a := sa) hown' hstr'.1 hstr'.2
    (g := { method := m, pc := pc + 4, locals := ls, stack := .ref T.heap.size :: .ref T.heap.size :: rest, locked := none }) rfl d4' _ hsteps
end Ends
section Bodies
variable {l : Launch}
theorem vx_ofW {y : MethodName} {ws ws' : List Cond} {rm : Room} {Pc : Array Value → State → Prop} {Qc : Array Value → State → Outcome → State → Prop} {XC : String → State → State → Prop} {mc ms : Nat} {free : Addr → Prop} {cc : ByteArray} {maxL : Nat} {ret : Option FieldType}
    (hy : plainName y.cls = true) (hw : ws = Cond.code y cc maxL ret :: ws')
    (body : ∀ p e s m args below meth c s₁, BodyLoose p l y (headSpec ws rm) cc maxL ret e s m args below meth c s₁ → c.maxLocals = maxL → (∀ x ∈ c.exceptionTable.toList, False) → Pc args s →
      W p l e (headSpec ws rm).room s m args below meth c s.heap [] 0 0 (vx_MQ below Qc XC args s mc ms free) (entryFrame m args maxL)) : vx_Met l y ws rm Pc Qc XC mc ms free := by
  refine MetFree.of_bodyS (code := cc) (maxLocals := maxL) (ret := ret) hy ?_ ?_
  · intro args s m h hn
    obtain ⟨meth, c, h1, h2, h3, h4, h5, h6, -, -⟩ := Cond.code_spec hn (atoms_spec (ws := ws) h _ (by rw [hw]; exact List.mem_cons_self))
    exact ⟨meth, c, h1, h2, h3, h4, h5, h6⟩
  · intro p e s m args below meth c s₁ B hml hP _
    have hh0 : s₁.heap = s.heap := by rw [B.state]; rfl
    have ht : ∀ x ∈ c.exceptionTable.toList, False := by
      obtain ⟨meth9, c9, h1, h2, -, -, -, -, h7, -⟩ := Cond.code_spec B.named (atoms_spec (ws := ws) B.pre _ (by rw [hw]; exact List.mem_cons_self))
      cases Option.some.inj (h1.symm.trans B.method)
      cases Option.some.inj (h2.symm.trans (Stand.of_body B).code)
      intro x hx
      rw [Array.isEmpty_iff.mp h7] at hx
      cases hx
    obtain ⟨t, a1, o, b1, b2, b3⟩ := body p e s m args below meth c s₁ B hml ht hP s₁ hh0 (Stand.of_body B)
    exact ⟨t, o, a1, b1, b2, b3⟩
/-- the table of a body with handlers -/
theorem vx_table {p : Program} {x y : MethodName} {S : Spec} {cc bytes : ByteArray} {maxL maxL' : Nat} {ret ret' : Option FieldType} {e : Env} {s s₁ : State} {m : MethodId} {args : Array Value} {below : List Frame} {meth : Method} {c : Code} {hh : List (Nat × Nat × Nat × Nat)}
    (B : BodyLoose p l y S cc maxL ret e s m args below meth c s₁) (h : (Cond.codeWith y bytes maxL' ret' hh).before args s = true) : c.exceptionTable.toList = tableOf hh := by
  obtain ⟨m9, meth9, c9, hn9, h1, h2, -, -, h6, -⟩ := Cond.codeWith_spec h
  cases Option.some.inj (hn9.symm.trans B.named)
  cases Option.some.inj (h1.symm.trans B.method)
  cases Option.some.inj (h2.symm.trans (Stand.of_body B).code)
  rw [← h6, table_eq]
end Bodies
end VXA
/-! ===== END ===== -/
/-! ===== BEGIN a static call of a method with an exception table ===== -/
section VXS
variable {p : Program} {l : Launch} {e : Env} {R : Room} {s : State} {m : MethodId} {args : Array Value} {below : List Frame} {meth : Method} {c : Code} {T : State} {H : Heap} {locs : List Loc} {cells slots : Nat}
abbrev vx_CSW (R : Room) (s : State) (args : Array Value) (own : String) (index : Nat) (y : MethodName) (bytes : ByteArray) (maxL : Nat) (ret : Option FieldType) (hh : List (Nat × Nat × Nat × Nat)) (ws : List Cond) (rm : Room) (mc ms n : Nat) : Prop :=
  (rm.cells = mc ∧ rm.slots = ms ∧ rm.frames + 1 ≤ R.frames ∧ 8 + (maxL + 11) + rm.locals ≤ R.locals ∧ (∀ w ∈ ws, ∀ (a' : Array Value) (U : State), s.WarmedH U.vm → w.before a' U = true) ∧ Cond.codeWith y bytes maxL ret hh ∈ ws) ∧
  (Cond.codeWith y bytes maxL ret hh).before args s = true ∧ (Cond.initialized y.cls).before args s = true ∧ (y.cls ≠ "java/lang/invoke/MethodHandle" ∧ y.cls ≠ "java/lang/invoke/VarHandle") ∧
  (∀ sig, parseMethodDescriptor y.desc = some sig → n = sig.parameters.length) ∧ (Cond.methodLink own index y).before args s = true ∧ (Cond.static y).before args s = true
theorem vx_cwSW {own : String} {index maxL mc ms : Nat} {y : MethodName} {bytes : ByteArray} {ret : Option FieldType} {hh : List (Nat × Nat × Nat × Nat)} {Ts ws ws' : List Cond} {rm : Room} (n : Nat) (ht : ∀ w ∈ Ts, w.before args s = true) (hT : GoodIn Ts (va_wsS own index y ws)) (hw : ws = Cond.codeWith y bytes maxL ret hh :: ws') (hrc : rm.cells = mc) (hrs : rm.slots = ms)
    (hd : y.cls ≠ "java/lang/invoke/MethodHandle" ∧ y.cls ≠ "java/lang/invoke/VarHandle" ∧ (parseMethodDescriptor y.desc).map (fun d => d.parameters.length) = some n) (hR : rm.frames + 1 ≤ R.frames ∧ 8 + (maxL + 11) + rm.locals ≤ R.locals) :
    vx_CSW R s args own index y bytes maxL ret hh ws rm mc ms n := by
  have ok : ∀ w ∈ va_wsS own index y ws, w.before args s = true := fun w h => ht w (hT w h).1
  have hG : GoodIn Ts ws := fun w h => hT w (by unfold va_wsS; exact List.mem_append_right _ h)
  have hc : Cond.codeWith y bytes maxL ret hh ∈ ws := by rw [hw]; exact List.mem_cons_self
  refine ⟨⟨hrc, hrs, hR.1, hR.2, pay_in ht hG, hc⟩, ht _ (hG _ hc).1, ok _ (by simp [va_wsS]), ⟨hd.1, hd.2.1⟩, fun sig h => ?_, ok _ (by simp [va_wsS]), ok _ (by simp [va_wsS])⟩
  have h2 := hd.2.2
  rw [h] at h2
  exact (Option.some.inj h2).symm
theorem vx_callSW (X : Stand p l e R s m args below meth c T locs cells slots) (hexec : p.tables.exec = Jvm.exec) {own : String} {index : Nat} {y : MethodName} {bytes : ByteArray} {maxL : Nat} {ret : Option FieldType} {hh : List (Nat × Nat × Nat × Nat)}
    (hown : s.vm.findClass own = some m.cls) (hlink : (Cond.methodLink own index y).before args s = true) (hstat : (Cond.static y).before args s = true) (hinit : (Cond.initialized y.cls).before args s = true)
    (hcode : (Cond.codeWith y bytes maxL ret hh).before args s = true) (hy : y.cls ≠ "java/lang/invoke/MethodHandle" ∧ y.cls ≠ "java/lang/invoke/VarHandle")
    {W9 : Nat} {Pre : Pt → Array Value → Prop} {Post : Pt → Array Value → Option Value → Pt → Prop} (hK : Back l R p e below s args y 3 W9 Pre Post)
    {g : JFrame} (hg : g.method = m) (hsize : g.locals.size = c.maxLocals) {argsL rest : List Value} (hlen : ∀ sig, parseMethodDescriptor y.desc = some sig → argsL.length = sig.parameters.length)
    (hstack : g.stack = argsL.reverse ++ rest) (hW : 2 * g.monitorRoom + (rest.map fun v => v.category).sum ≤ W9) (hdg : decode c.code g.pc = .ok (.invokestatic index, 3))
    (hpre : ∀ vm₁, s.WarmedH vm₁ → Pre ⟨T.setVm vm₁, locs, cells, slots⟩ argsL.toArray) :
    ∃ (v : Option Value) (vm₁ : Vm) (B : Pt), s.WarmedH vm₁ ∧ Stand p l e R s m args below meth c B.U B.locs B.cells B.slots ∧ Post ⟨T.setVm vm₁, locs, cells, slots⟩ argsL.toArray v B ∧
      ∀ target, Steps p.tables e below (B.U.setTop { g with pc := g.pc + 3, stack := v.toList ++ rest }) target → Steps p.tables e below (T.setTop g) target := by
  obtain ⟨mk, methM, cM, hnamed, hmethM, -, -, -, -, -, -, hsigM⟩ := Cond.codeWith_spec hcode
  have hstatic : methM.isStatic = true := Cond.static_spec hnamed hmethM hstat
  obtain ⟨kP, hkP, -⟩ := className_of_methodNamed hnamed
  have hinitP : kP.init = .initialized := Cond.initialized_spec (findClass_of_methodNamed hnamed) hkP hinit
  obtain ⟨vm₁, X₁, hstep₁⟩ := X.invokestatic hexec hown hlink hnamed hmethM hstatic hkP hinitP hy (g := g) hg (argsL := argsL) (rest := rest) (hlen _ hsigM) hstack hdg
  obtain ⟨v, B, X', hpost, hsteps⟩ := hK m meth c ⟨T.setVm vm₁, locs, cells, slots⟩ { g with stack := rest } (.invokestatic index) mk argsL.toArray X₁ hg hsize hdg hW (X₁.named hnamed) (hpre vm₁ X₁.warmed)
  exact ⟨v, vm₁, B, X₁.warmed, X', hpost, fun target h => hstep₁ _ fun acts => by rw [doInvoke_state]; exact hsteps.trans h⟩
theorem vx_runSW {y : MethodName} {bytes cc : ByteArray} {maxL nL mc ms n index : Nat} {ret : Option FieldType} {hh : List (Nat × Nat × Nat × Nat)} {ws : List Cond} {rm : Room} {Pc : Array Value → State → Prop} {Qc : Array Value → State → Outcome → State → Prop} {free : Addr → Prop} {Ts : List Cond} {own : String} {As rest : List Value} {g : JFrame}
    (S : CallFix p m c cc nL s args Ts own) (hM : Met l y ws rm Pc Qc mc ms free) (cw : vx_CSW R s args own index y bytes maxL ret hh ws rm mc ms n) (hp : PreS s H Pc As)
    (hg : g.method = m) (hn : As.length = n) (hsize : g.locals.size = nL) (hstack : g.stack = As.reverse ++ rest) (hW : 2 * g.monitorRoom + (rest.map fun v => v.category).sum ≤ 8) (hdg : decode cc g.pc = .ok (.invokestatic index, 3)) (hf : cells + mc ≤ R.cells ∧ slots + ms ≤ R.slots) :
    va_Run p l e R s m args below meth c H locs cells slots mc ms g rest (Qc As.toArray) (free) := by
  obtain ⟨⟨hrc, hrs, hfr, hlo, hws, hcw⟩, hcode, hini, hy, hlen, hl, hstt⟩ := cw
  have hK : Back l R p e below s args y 3 8 (PreOf R mc ms Pc) (PostOf Qc mc ms free) := va_backW (hh := hh) (bytes := bytes) (maxL := maxL) (ret := ret) hM hp.1 hrc hrs hfr hlo hws hcw (fun a' U hW => word_at hW (Or.inl (by first | rfl | simp [Cond.onTables, Cond.keeps, Cond.steady])) hini)
  obtain ⟨hx, hb, hml, ho, -⟩ := S
  intro T hT X
  obtain ⟨v, vm₁, ⟨U', l2, c2, s2⟩, hW₁, X', ⟨g', mk, t, L, e1, e2, hq, h1, hL, h2, h3⟩, st⟩ := vx_callSW X hx (hh := hh) (bytes := bytes) (maxL := maxL) (ret := ret) ho hl hstt hini hcode hy hK hg (hsize.trans hml.symm) (argsL := As) (rest := rest) (fun sig h => hn.trans (hlen sig h)) hstack hW (by rw [hb]; exact hdg)
    (fun vm₁ hW₁ => ⟨hf.1, hf.2, hp.2 (T.setVm vm₁) hT hW₁⟩)
  dsimp only [Pt.U, Pt.locs, Pt.cells, Pt.slots] at X' e1 e2 h1 h2 h3 st
  subst h1; subst h2; subst h3
  exact ⟨v, (T.setVm vm₁).calling g' mk As.toArray, t, U', L, hT, X', hL, e1, e2, hq, st⟩
/-- not caught here, past rows that name other classes: it goes on to the caller -/
theorem vx_outP {p : Program} {l : Launch} {e : Env} {R : Room} {s : State} {m : MethodId} {args : Array Value} {below : List Frame} {meth : Method} {c : Code} {H : Heap} {locs : List Loc} {cells slots : Nat} {free : Addr → Prop} {ls : Array Slot} {rest : List Value} {Qc : Array Value → State → Outcome → State → Prop} {XC : String → State → State → Prop}
    {pc : Nat} {own E : String} {ce : Cell} {q : Addr} {mc ms : Nat} (hown : s.vm.findClass own = some m.cls) (hlocks : meth.locks = false)
    (hpass : ∀ z ∈ c.exceptionTable.toList, covers z pc = false ∨ (z.catchType ≠ 0 ∧ ∃ nm : String, (Cond.classLink own z.catchType nm).before args s = true ∧ va_Nc E nm s)) (hcell : H[q]? = some ce) (hv : ce.vm = .none) (hcl : s.vm.findClass E = some ce.cls)
    (hx : ∀ t : State, t.heap = H → s.vm.Alike t.vm → XC E s t) (hf : ∀ z ∈ locs, free z.base) (hc : cells ≤ mc) (hs : slots ≤ ms) :
    vx_W p l e R s m args below meth c H locs cells slots (vx_MQ below Qc XC args s mc ms free) (F0 m pc ls rest) q := by
  intro T hT X
  have hpl : e.platform.magicAccessors = ({} : Platform).magicAccessors := by rw [X.admits.platform]
  obtain ⟨vm', hW', X', st⟩ := X.outThrough hlocks q (g := F0 m pc ls rest) rfl rfl rfl (cell := ce) (by rw [hT]; exact hcell) (by rw [hv]; rfl)
    (by obtain ⟨k9, h9, -⟩ := Vm.findClass_spec hcl; exact ⟨k9, h9⟩) (fun z hz => by
      rcases hpass z hz with h | ⟨hz0, nm, hl1, hn1⟩
      · exact Or.inl h
      · obtain ⟨c6, hc6, hcl6⟩ := Cond.classLink_spec hown hl1 e.platform hpl
        obtain ⟨a8, b8, h1, h2, h3⟩ := hn1
        cases Option.some.inj (h1.symm.trans hcl)
        cases Option.some.inj (h2.symm.trans hc6)
        exact Or.inr ⟨hz0, _, hcl6, h3⟩)
  obtain ⟨g₀, hfr⟩ := X'.frames_eq
  have hcell9 : ((T.setVm vm').setFrames (.throwing q :: below)).heap[q]? = some ce := by
    show T.heap[q]? = some ce
    rw [hT]; exact hcell
  have hend : Ended ((T.setVm vm').setFrames (.throwing q :: below)) below (.threw q) := State.frames_setFrames _ (State.cur_lt_of_frames hfr)
  refine ⟨(T.setVm vm').setFrames (.throwing q :: below), ?_, .threw q, X'.here.running, hend, Or.inr ⟨q, rfl, E, ce, locs, hx _ hT (X'.ends _).1.alike, hcell9, hv, hcl, (X'.ends _).1, (X'.ends _).2.mono hc hs, hf⟩⟩
  rw [X.pushThrowing_eq]
  exact st
/-- a thing of a world lies in the heap -/
theorem vx_lt {D : va_G} {cl : List vw_C} {ws : va_W} {H1 : Heap} (h : va_P D cl ws H1) {k : Nat} {q : Nat × va_E} (hk : ws[k]? = some q) : q.1 < H1.size := (h k q hk).lt
end VXS
/-! ===== END ===== -/
/-! ===== BEGIN methods with a table of their own: called by a name, returning or throwing ===== -/
section VXH
/-! vx_backW, vx_callVX, vx_callSX, vx_callVW, vx_runVW, vx_runVX, vx_runSX, vx_ofWH follow the same proofs as their sisters above (Free/Laws.lean, Shelf42/LK1.lean); vx_outP calls Shelf42/NT130.lean (outThrough). -/
section
variable {l : Launch} {R : Room} {p : Program} {e : Env} {below : List Frame} {s : State} {sargs : Array Value} {y : MethodName} {len W9 : Nat}
theorem vx_backW {ws : List Cond} {rm : Room} {Pc : Array Value → State → Prop} {Qc : Array Value → State → Outcome → State → Prop} {XC : String → State → State → Prop} {mc ms : Nat} {free : Addr → Prop} {bytes : ByteArray} {maxL : Nat} {ret : Option FieldType} {hh : List (Nat × Nat × Nat × Nat)}
    (hM : vx_Met l y ws rm Pc Qc XC mc ms free) (hblind : FrameBlind Pc) (hrc : rm.cells = mc) (hrs : rm.slots = ms)
    (hframes : rm.frames + 1 ≤ R.frames) (hlocals : W9 + (maxL + 11) + rm.locals ≤ R.locals)
    (hws : ∀ w ∈ ws, ∀ a' U, s.WarmedH U.vm → w.before a' U = true) (hcode : Cond.codeWith y bytes maxL ret hh ∈ ws) (hinit : ∀ a' U, s.WarmedH U.vm → (Cond.initialized y.cls).before a' U = true) :
    vx_Back l R p e below s sargs y len W9 (PreOf R mc ms Pc) (PostOf Qc mc ms free) (vx_Post XC mc ms free) := by
  intro m meth c A g ig mk a X hg hsize hdg hW hn hp
  have h1 : (headSpec ws rm).pre.before a A.U = true := atoms_intro fun w hw => hws w hw _ _ X.warmed
  have h2 : (Cond.codeWith y bytes maxL ret hh).before a A.U = true := hws _ hcode _ _ X.warmed
  have h3 : (Cond.initialized y.cls).before a A.U = true := hinit _ _ X.warmed
  have h4 : A.cells + (headSpec ws rm).room.cells ≤ R.cells := by rw [show (headSpec ws rm).room.cells = mc from hrc]; exact hp.1
  have h5 : A.slots + (headSpec ws rm).room.slots ≤ R.slots := by rw [show (headSpec ws rm).room.slots = ms from hrs]; exact hp.2.1
  have hPc : Pc a (A.U.calling g mk a) := hblind _ _ _ _ hp.2.2
  obtain ⟨U, Ls, c0, s0⟩ := A
  dsimp only [Pt.U, Pt.locs, Pt.cells, Pt.slots] at h1 h2 h3 h4 h5 X hn hPc ⊢
  obtain ⟨m9, methY, cY, hn9, hmY, hcY, -, hlY, -⟩ := Cond.codeWith_spec h2
  cases Option.some.inj (hn9.symm.trans hn)
  obtain ⟨kY, hkY, -⟩ := className_of_methodNamed hn
  have hinitY : kY.init = .initialized := Cond.initialized_spec (findClass_of_methodNamed hn) hkY h3
  have h : At U g.method c below := by rw [hg]; exact X.here
  have hlocals9 : W9 + (maxL + 11) + (headSpec ws rm).room.locals ≤ R.locals := hlocals
  have happ : (headSpec ws rm).appliesLoose y e.platform (U.calling g mk a) = true :=
    Spec.appliesLoose_calling (g := g) h hdg hn hkY hinitY
      (X.room_calling (g := g) (R' := (headSpec ws rm).room) hsize hmY hcY hframes (by rw [hlY]; omega) h4 h5) h1
  obtain ⟨mid, hmid⟩ := h.above
  have hfr : (U.setTop g).frames = (.java g :: mid) ++ below := by rw [State.frames_setTop' g h.top, hmid]; rfl
  obtain ⟨o, s₂, hsteps, -, hend, hq⟩ := Steps.callFree hM p X.admits X.cas X.clock (acts := []) hfr happ hPc trivial
  have hq' : vx_Q Qc XC mc ms free a (U.calling g mk a) o s₂ := hq
  rw [State.frames_setTop' g h.top] at hend
  obtain ⟨g₀, hg0⟩ := Option.isSome_iff_exists.mp h.top
  obtain ⟨r, hr⟩ := State.topJava?_eq_some.mp hg0
  have hr' : (({ U with heap := s₂.heap, slotsUsed := s₂.slotsUsed } : State).setVm s₂.vm).frames = .java g₀ :: r := hr
  rcases hq' with ⟨hqc, L, hfe, hL⟩ | ⟨q, rfl, E, ce, L, hx, hce, hcv, hcl, hW₂, hsm, hL⟩
  · obtain ⟨⟨v, rfl⟩, hW₂, e2, q2, q3, q4, q5, q6⟩ := id hfe
    have e3 : s₂ = ({ (U.calling g mk a).setFrames s₂.frames with heap := s₂.heap, slotsUsed := s₂.slotsUsed } : State).setVm s₂.vm := by
      have : s₂ = ({ s₂ with vm := (U.calling g mk a).vm } : State).setVm s₂.vm := rfl
      rw [e2] at this
      exact this
    obtain ⟨c₂, i₂, len₂, hc₂, hd₂, hf₂⟩ := hend
    have hW' : U.WarmedH s₂.vm := hW₂
    have hcc : c₂ = c := by
      have h1 : s₂.code? g.method = U.code? g.method := by
        rw [State.code?_eq, State.code?_eq, hW'.alike.method?]
      exact Option.some.inj (hc₂.symm.trans (h1.trans h.code))
    subst hcc
    have hlen : len₂ = len := by rw [hdg] at hd₂; cases hd₂; rfl
    subst hlen
    have hs₂ : s₂ = (({ U with heap := s₂.heap, slotsUsed := s₂.slotsUsed } : State).setVm s₂.vm).setTop { g with pc := g.pc + len₂, stack := v.toList ++ g.stack } := by
      refine e3.trans ?_
      rw [hf₂, State.calling_eq h.top, State.setFrames_setFrames, State.setTop_of_frames _ hr', hr]
      rfl
    have hsame : U.sameButNew ({ U with heap := s₂.heap, slotsUsed := s₂.slotsUsed } : State) L mc ms := by
      refine ⟨?_, q2, q3, q4, q5, q6⟩
      obtain ⟨t, ht, -⟩ := State.frames_cons hr
      show ({ U with heap := s₂.heap, slotsUsed := s₂.slotsUsed } : State) = { U.setFrames U.frames with heap := s₂.heap, slotsUsed := s₂.slotsUsed }
      rw [State.setFrames_self ht]
    subst hg
    refine Or.inl ⟨v, ⟨(({ U with heap := s₂.heap, slotsUsed := s₂.slotsUsed } : State).setVm s₂.vm), Ls ++ L, c0 + mc, s0 + ms⟩,
      ⟨X.admits, X.cas, X.clock, X.frames, X.room, X.hears, X.method, X.code, (X.here.setHeapUsed s₂.heap s₂.slotsUsed).setVm hW'.alike, X.tail, State.WarmedH.trans X.warmed hW', X.limits, X.bytes, X.same.trans (hsame.setVm s.vm)⟩,
      ⟨g, mk, s₂, L, rfl, rfl, hqc, rfl, hL, rfl, rfl⟩, ?_⟩
    show Steps p.tables e below _ ((({ U with heap := s₂.heap, slotsUsed := s₂.slotsUsed } : State).setVm s₂.vm).setTop { g with pc := g.pc + len₂, stack := v.toList ++ g.stack })
    rw [← hs₂]
    exact hsteps
  · obtain ⟨e2, q2, q3, q4, q5, q6⟩ := id hsm
    have e3 : s₂ = ({ (U.calling g mk a).setFrames s₂.frames with heap := s₂.heap, slotsUsed := s₂.slotsUsed } : State).setVm s₂.vm := by
      have : s₂ = ({ s₂ with vm := (U.calling g mk a).vm } : State).setVm s₂.vm := rfl
      rw [e2] at this
      exact this
    have hf₂ : s₂.frames = .throwing q :: .java g :: U.frames.tail := hend
    have hW' : U.WarmedH s₂.vm := hW₂
    have hs₂ : s₂ = ((({ U with heap := s₂.heap, slotsUsed := s₂.slotsUsed } : State).setVm s₂.vm).setTop g).pushFrame (.throwing q) := by
      refine e3.trans ?_
      rw [hf₂, State.calling_eq h.top, State.setFrames_setFrames, State.pushFrame, State.frames_setTop _ hr', State.setTop_of_frames _ hr', State.setFrames_setFrames, hr]
      rfl
    have hsame : U.sameButNew ({ U with heap := s₂.heap, slotsUsed := s₂.slotsUsed } : State) L mc ms := by
      refine ⟨?_, q2, q3, q4, q5, q6⟩
      obtain ⟨t, ht, -⟩ := State.frames_cons hr
      show ({ U with heap := s₂.heap, slotsUsed := s₂.slotsUsed } : State) = { U.setFrames U.frames with heap := s₂.heap, slotsUsed := s₂.slotsUsed }
      rw [State.setFrames_self ht]
    subst hg
    refine Or.inr ⟨q, ⟨(({ U with heap := s₂.heap, slotsUsed := s₂.slotsUsed } : State).setVm s₂.vm), Ls ++ L, c0 + mc, s0 + ms⟩,
      ⟨X.admits, X.cas, X.clock, X.frames, X.room, X.hears, X.method, X.code, (X.here.setHeapUsed s₂.heap s₂.slotsUsed).setVm hW'.alike, X.tail, State.WarmedH.trans X.warmed hW', X.limits, X.bytes, X.same.trans (hsame.setVm s.vm)⟩,
      ⟨g, mk, s₂, L, E, ce, rfl, rfl, hx, hce, hcv, hcl, rfl, hL, rfl, rfl⟩, ?_⟩
    show Steps p.tables e below _ (((({ U with heap := s₂.heap, slotsUsed := s₂.slotsUsed } : State).setVm s₂.vm).setTop g).pushFrame (.throwing q))
    rw [← hs₂]
    exact hsteps
end
variable {p : Program} {l : Launch} {e : Env} {R : Room} {s : State} {m : MethodId} {args : Array Value} {below : List Frame} {meth : Method} {c : Code} {T : State} {H : Heap} {locs : List Loc} {cells slots : Nat}
theorem vx_callVX (X : Stand p l e R s m args below meth c T locs cells slots) (hexec : p.tables.exec = Jvm.exec) {own C : String} {index : Nat} {y : MethodName} {bytes : ByteArray} {maxL : Nat} {ret : Option FieldType} {hh : List (Nat × Nat × Nat × Nat)}
    (hown : s.vm.findClass own = some m.cls) (hlink : (Cond.methodLink own index y).before args s = true) (hinst : (Cond.instanceMethod y).before args s = true) (hsel : (Cond.selects C y y).before args s = true)
    (hcode : (Cond.codeWith y bytes maxL ret hh).before args s = true) (hy : y.cls ≠ "java/lang/invoke/MethodHandle" ∧ y.cls ≠ "java/lang/invoke/VarHandle")
    {W9 : Nat} {Pre : Pt → Array Value → Prop} {Post : Pt → Array Value → Option Value → Pt → Prop} {PostX : Pt → Array Value → Addr → Pt → Prop} (hK : vx_Back l R p e below s args y 3 W9 Pre Post PostX)
    {b : Addr} {cellB : Cell} (hcell : T.heap[b]? = some cellB) (hobj : cellB.vm.isStatics = false) (hcls : s.vm.findClass C = some cellB.cls)
    {g : JFrame} (hg : g.method = m) (hsize : g.locals.size = c.maxLocals) {argsL rest : List Value} (hlen : ∀ sig, parseMethodDescriptor y.desc = some sig → argsL.length = sig.parameters.length)
    (hstack : g.stack = argsL.reverse ++ .ref b :: rest) (hW : 2 * g.monitorRoom + (rest.map fun v => v.category).sum ≤ W9) (hdg : decode c.code g.pc = .ok (.invokevirtual index, 3))
    (hpre : ∀ vm₁, s.WarmedH vm₁ → Pre ⟨T.setVm vm₁, locs, cells, slots⟩ (Value.ref b :: argsL).toArray) :
    (∃ (v : Option Value) (vm₁ : Vm) (B : Pt), s.WarmedH vm₁ ∧ Stand p l e R s m args below meth c B.U B.locs B.cells B.slots ∧ Post ⟨T.setVm vm₁, locs, cells, slots⟩ (Value.ref b :: argsL).toArray v B ∧
      ∀ target, Steps p.tables e below (B.U.setTop { g with pc := g.pc + 3, stack := v.toList ++ rest }) target → Steps p.tables e below (T.setTop g) target) ∨
    (∃ (q : Addr) (vm₁ : Vm) (B : Pt), s.WarmedH vm₁ ∧ Stand p l e R s m args below meth c B.U B.locs B.cells B.slots ∧ PostX ⟨T.setVm vm₁, locs, cells, slots⟩ (Value.ref b :: argsL).toArray q B ∧
      Steps p.tables e below (T.setTop g) ((B.U.setTop { g with stack := rest }).pushFrame (.throwing q))) := by
  obtain ⟨mk, methM, hnamed, hmethM, hstM, habM⟩ := Cond.instanceMethod_spec hinst
  obtain ⟨m8, methM', cM, hn8, hmethM', -, -, -, -, -, -, hsigM⟩ := Cond.codeWith_spec hcode
  cases Option.some.inj (hn8.symm.trans hnamed)
  cases hmethM.symm.trans hmethM'
  obtain ⟨c2, r2, m2, q1, q2, q3, q4, kP, hkP, hkPi⟩ := Cond.selects_spec hsel
  cases hcls.symm.trans q1
  cases (State.methodFound?_of_named hnamed hy).symm.trans q2
  cases hnamed.symm.trans q3
  have hselP : selectMethod e.platform s.vm cellB.cls mk = .method mk := by rw [Launch.admits_selectMethod X.admits]; exact q4
  obtain ⟨vm₁, X₁, hstep₁⟩ := X.invokevirtual hexec hown hlink hnamed hmethM hstM hkP hkPi hy (a := b) (cell := cellB) hcell
    (fun z h => by rw [h] at hobj; cases hobj) hselP hmethM habM hkP hkPi (g := g) hg (argsL := argsL) (rest := rest) (hlen _ hsigM) hstack hdg
  rcases hK m meth c ⟨T.setVm vm₁, locs, cells, slots⟩ { g with stack := rest } (.invokevirtual index) mk (Value.ref b :: argsL).toArray X₁ hg hsize hdg hW (X₁.named hnamed) (hpre vm₁ X₁.warmed) with ⟨v, B, X', hpost, hsteps⟩ | ⟨q, B, X', hpost, hsteps⟩
  · exact Or.inl ⟨v, vm₁, B, X₁.warmed, X', hpost, fun target h => hstep₁ _ fun acts => by rw [doInvoke_state]; exact hsteps.trans h⟩
  · exact Or.inr ⟨q, vm₁, B, X₁.warmed, X', hpost, hstep₁ _ fun acts => by rw [doInvoke_state]; exact hsteps⟩
theorem vx_callSX (X : Stand p l e R s m args below meth c T locs cells slots) (hexec : p.tables.exec = Jvm.exec) {own : String} {index : Nat} {y : MethodName} {bytes : ByteArray} {maxL : Nat} {ret : Option FieldType} {hh : List (Nat × Nat × Nat × Nat)}
    (hown : s.vm.findClass own = some m.cls) (hlink : (Cond.methodLink own index y).before args s = true) (hstat : (Cond.static y).before args s = true) (hinit : (Cond.initialized y.cls).before args s = true)
    (hcode : (Cond.codeWith y bytes maxL ret hh).before args s = true) (hy : y.cls ≠ "java/lang/invoke/MethodHandle" ∧ y.cls ≠ "java/lang/invoke/VarHandle")
    {W9 : Nat} {Pre : Pt → Array Value → Prop} {Post : Pt → Array Value → Option Value → Pt → Prop} {PostX : Pt → Array Value → Addr → Pt → Prop} (hK : vx_Back l R p e below s args y 3 W9 Pre Post PostX)
    {g : JFrame} (hg : g.method = m) (hsize : g.locals.size = c.maxLocals) {argsL rest : List Value} (hlen : ∀ sig, parseMethodDescriptor y.desc = some sig → argsL.length = sig.parameters.length)
    (hstack : g.stack = argsL.reverse ++ rest) (hW : 2 * g.monitorRoom + (rest.map fun v => v.category).sum ≤ W9) (hdg : decode c.code g.pc = .ok (.invokestatic index, 3))
    (hpre : ∀ vm₁, s.WarmedH vm₁ → Pre ⟨T.setVm vm₁, locs, cells, slots⟩ argsL.toArray) :
    (∃ (v : Option Value) (vm₁ : Vm) (B : Pt), s.WarmedH vm₁ ∧ Stand p l e R s m args below meth c B.U B.locs B.cells B.slots ∧ Post ⟨T.setVm vm₁, locs, cells, slots⟩ argsL.toArray v B ∧
      ∀ target, Steps p.tables e below (B.U.setTop { g with pc := g.pc + 3, stack := v.toList ++ rest }) target → Steps p.tables e below (T.setTop g) target) ∨
    (∃ (q : Addr) (vm₁ : Vm) (B : Pt), s.WarmedH vm₁ ∧ Stand p l e R s m args below meth c B.U B.locs B.cells B.slots ∧ PostX ⟨T.setVm vm₁, locs, cells, slots⟩ argsL.toArray q B ∧
      Steps p.tables e below (T.setTop g) ((B.U.setTop { g with stack := rest }).pushFrame (.throwing q))) := by
  obtain ⟨mk, methM, cM, hnamed, hmethM, -, -, -, -, -, -, hsigM⟩ := Cond.codeWith_spec hcode
  have hstatic : methM.isStatic = true := Cond.static_spec hnamed hmethM hstat
  obtain ⟨kP, hkP, -⟩ := className_of_methodNamed hnamed
  have hinitP : kP.init = .initialized := Cond.initialized_spec (findClass_of_methodNamed hnamed) hkP hinit
  obtain ⟨vm₁, X₁, hstep₁⟩ := X.invokestatic hexec hown hlink hnamed hmethM hstatic hkP hinitP hy (g := g) hg (argsL := argsL) (rest := rest) (hlen _ hsigM) hstack hdg
  rcases hK m meth c ⟨T.setVm vm₁, locs, cells, slots⟩ { g with stack := rest } (.invokestatic index) mk argsL.toArray X₁ hg hsize hdg hW (X₁.named hnamed) (hpre vm₁ X₁.warmed) with ⟨v, B, X', hpost, hsteps⟩ | ⟨q, B, X', hpost, hsteps⟩
  · exact Or.inl ⟨v, vm₁, B, X₁.warmed, X', hpost, fun target h => hstep₁ _ fun acts => by rw [doInvoke_state]; exact hsteps.trans h⟩
  · exact Or.inr ⟨q, vm₁, B, X₁.warmed, X', hpost, hstep₁ _ fun acts => by rw [doInvoke_state]; exact hsteps⟩
theorem vx_callVW (X : Stand p l e R s m args below meth c T locs cells slots) (hexec : p.tables.exec = Jvm.exec) {own C : String} {index : Nat} {y : MethodName} {bytes : ByteArray} {maxL : Nat} {ret : Option FieldType} {hh : List (Nat × Nat × Nat × Nat)}
    (hown : s.vm.findClass own = some m.cls) (hlink : (Cond.methodLink own index y).before args s = true) (hinst : (Cond.instanceMethod y).before args s = true) (hsel : (Cond.selects C y y).before args s = true)
    (hcode : (Cond.codeWith y bytes maxL ret hh).before args s = true) (hy : y.cls ≠ "java/lang/invoke/MethodHandle" ∧ y.cls ≠ "java/lang/invoke/VarHandle")
    {W9 : Nat} {Pre : Pt → Array Value → Prop} {Post : Pt → Array Value → Option Value → Pt → Prop} (hK : Back l R p e below s args y 3 W9 Pre Post)
    {b : Addr} {cellB : Cell} (hcell : T.heap[b]? = some cellB) (hobj : cellB.vm.isStatics = false) (hcls : s.vm.findClass C = some cellB.cls)
    {g : JFrame} (hg : g.method = m) (hsize : g.locals.size = c.maxLocals) {argsL rest : List Value} (hlen : ∀ sig, parseMethodDescriptor y.desc = some sig → argsL.length = sig.parameters.length)
    (hstack : g.stack = argsL.reverse ++ .ref b :: rest) (hW : 2 * g.monitorRoom + (rest.map fun v => v.category).sum ≤ W9) (hdg : decode c.code g.pc = .ok (.invokevirtual index, 3))
    (hpre : ∀ vm₁, s.WarmedH vm₁ → Pre ⟨T.setVm vm₁, locs, cells, slots⟩ (Value.ref b :: argsL).toArray) :
    ∃ (v : Option Value) (vm₁ : Vm) (B : Pt), s.WarmedH vm₁ ∧ Stand p l e R s m args below meth c B.U B.locs B.cells B.slots ∧ Post ⟨T.setVm vm₁, locs, cells, slots⟩ (Value.ref b :: argsL).toArray v B ∧
      ∀ target, Steps p.tables e below (B.U.setTop { g with pc := g.pc + 3, stack := v.toList ++ rest }) target → Steps p.tables e below (T.setTop g) target := by
  obtain ⟨mk, methM, hnamed, hmethM, hstM, habM⟩ := Cond.instanceMethod_spec hinst
  obtain ⟨m8, methM', cM, hn8, hmethM', -, -, -, -, -, -, hsigM⟩ := Cond.codeWith_spec hcode
  cases Option.some.inj (hn8.symm.trans hnamed)
  cases hmethM.symm.trans hmethM'
  obtain ⟨c2, r2, m2, q1, q2, q3, q4, kP, hkP, hkPi⟩ := Cond.selects_spec hsel
  cases hcls.symm.trans q1
  cases (State.methodFound?_of_named hnamed hy).symm.trans q2
  cases hnamed.symm.trans q3
  have hselP : selectMethod e.platform s.vm cellB.cls mk = .method mk := by rw [Launch.admits_selectMethod X.admits]; exact q4
  obtain ⟨vm₁, X₁, hstep₁⟩ := X.invokevirtual hexec hown hlink hnamed hmethM hstM hkP hkPi hy (a := b) (cell := cellB) hcell
    (fun z h => by rw [h] at hobj; cases hobj) hselP hmethM habM hkP hkPi (g := g) hg (argsL := argsL) (rest := rest) (hlen _ hsigM) hstack hdg
  obtain ⟨v, B, X', hpost, hsteps⟩ := hK m meth c ⟨T.setVm vm₁, locs, cells, slots⟩ { g with stack := rest } (.invokevirtual index) mk (Value.ref b :: argsL).toArray X₁ hg hsize hdg hW (X₁.named hnamed) (hpre vm₁ X₁.warmed)
  exact ⟨v, vm₁, B, X₁.warmed, X', hpost, fun target h => hstep₁ _ fun acts => by rw [doInvoke_state]; exact hsteps.trans h⟩
abbrev vx_CVW (R : Room) (s : State) (args : Array Value) (own C : String) (index : Nat) (y : MethodName) (bytes : ByteArray) (maxL : Nat) (ret : Option FieldType) (hh : List (Nat × Nat × Nat × Nat)) (ws : List Cond) (rm : Room) (mc ms n : Nat) : Prop :=
  (rm.cells = mc ∧ rm.slots = ms ∧ rm.frames + 1 ≤ R.frames ∧ 8 + (maxL + 11) + rm.locals ≤ R.locals ∧ (∀ w ∈ ws, ∀ (a' : Array Value) (U : State), s.WarmedH U.vm → w.before a' U = true) ∧ Cond.codeWith y bytes maxL ret hh ∈ ws) ∧
  (Cond.codeWith y bytes maxL ret hh).before args s = true ∧ (Cond.initialized y.cls).before args s = true ∧ (y.cls ≠ "java/lang/invoke/MethodHandle" ∧ y.cls ≠ "java/lang/invoke/VarHandle") ∧
  (∀ sig, parseMethodDescriptor y.desc = some sig → n = sig.parameters.length) ∧ (Cond.methodLink own index y).before args s = true ∧ (Cond.instanceMethod y).before args s = true ∧ (Cond.selects C y y).before args s = true
theorem vx_cwVW {own C : String} {index maxL mc ms : Nat} {y : MethodName} {bytes : ByteArray} {ret : Option FieldType} {hh : List (Nat × Nat × Nat × Nat)} {Ts ws ws' : List Cond} {rm : Room} (n : Nat) (ht : ∀ w ∈ Ts, w.before args s = true) (hT : GoodIn Ts (wsV own index C y ws)) (hw : ws = Cond.codeWith y bytes maxL ret hh :: ws') (hrc : rm.cells = mc) (hrs : rm.slots = ms)
    (hd : y.cls = C ∧ y.cls ≠ "java/lang/invoke/MethodHandle" ∧ y.cls ≠ "java/lang/invoke/VarHandle" ∧ (parseMethodDescriptor y.desc).map (fun d => d.parameters.length) = some n) (hR : rm.frames + 1 ≤ R.frames ∧ 8 + (maxL + 11) + rm.locals ≤ R.locals) :
    vx_CVW R s args own C index y bytes maxL ret hh ws rm mc ms n := by
  obtain ⟨hC, hd⟩ := hd
  subst hC
  have ok : ∀ w ∈ wsV own index y.cls y ws, w.before args s = true := fun w h => ht w (hT w h).1
  have hG : GoodIn Ts ws := fun w h => hT w (by unfold wsV; exact List.mem_append_right _ h)
  have hc : Cond.codeWith y bytes maxL ret hh ∈ ws := by rw [hw]; exact List.mem_cons_self
  refine ⟨⟨hrc, hrs, hR.1, hR.2, pay_in ht hG, hc⟩, ht _ (hG _ hc).1, ok _ (by simp [wsV]), ⟨hd.1, hd.2.1⟩, fun sig h => ?_, ok _ (by simp [wsV]), ok _ (by simp [wsV]), ok _ (by simp [wsV])⟩
  have h2 := hd.2.2
  rw [h] at h2
  exact (Option.some.inj h2).symm
theorem vx_runVW {y : MethodName} {bytes cc : ByteArray} {maxL nL mc ms n index : Nat} {ret : Option FieldType} {hh : List (Nat × Nat × Nat × Nat)} {ws : List Cond} {rm : Room} {Pc : Array Value → State → Prop} {Qc : Array Value → State → Outcome → State → Prop} {free : Addr → Prop} {Ts : List Cond} {own C : String} {b : Addr} {As rest : List Value} {g : JFrame}
    (S : CallFix p m c cc nL s args Ts own) (hM : Met l y ws rm Pc Qc mc ms free) (cw : vx_CVW R s args own C index y bytes maxL ret hh ws rm mc ms n) (hp : PreV s H C b Pc As)
    (hg : g.method = m) (hn : As.length = n) (hsize : g.locals.size = nL) (hstack : g.stack = As.reverse ++ .ref b :: rest) (hW : 2 * g.monitorRoom + (rest.map fun v => v.category).sum ≤ 8) (hdg : decode cc g.pc = .ok (.invokevirtual index, 3)) (hf : cells + mc ≤ R.cells ∧ slots + ms ≤ R.slots) :
    va_Run p l e R s m args below meth c H locs cells slots mc ms g rest (Qc (Value.ref b :: As).toArray) free := by
  obtain ⟨⟨hrc, hrs, hfr, hlo, hws, hcw⟩, hcode, hini, hy, hlen, hl, hin, hse⟩ := cw
  have hK : Back l R p e below s args y 3 8 (PreOf R mc ms Pc) (PostOf Qc mc ms free) := va_backW (hh := hh) (bytes := bytes) (maxL := maxL) (ret := ret) hM hp.1 hrc hrs hfr hlo hws hcw (fun a' U hW => word_at hW (Or.inl (by first | rfl | simp [Cond.onTables, Cond.keeps, Cond.steady])) hini)
  obtain ⟨hx, hb, hml, ho, -⟩ := S
  obtain ⟨-, ⟨cellB, hcB, hoB, hclB⟩, hPc⟩ := hp
  intro T hT X
  obtain ⟨v, vm₁, ⟨U', l2, c2, s2⟩, hW₁, X', ⟨g', mk, t, L, e1, e2, hq, h1, hL, h2, h3⟩, st⟩ := vx_callVW X hx (C := C) (hh := hh) (bytes := bytes) (maxL := maxL) (ret := ret) ho hl hin hse hcode hy hK (by rw [hT]; exact hcB) hoB hclB hg (hsize.trans hml.symm) (argsL := As) (rest := rest) (fun sig h => hn.trans (hlen sig h)) hstack hW (by rw [hb]; exact hdg)
    (fun vm₁ hW₁ => ⟨hf.1, hf.2, hPc (T.setVm vm₁) hT hW₁⟩)
  dsimp only [Pt.U, Pt.locs, Pt.cells, Pt.slots] at X' e1 e2 h1 h2 h3 st
  subst h1; subst h2; subst h3
  exact ⟨v, (T.setVm vm₁).calling g' mk (Value.ref b :: As).toArray, t, U', L, hT, X', hL, e1, e2, hq, st⟩
section
variable {y : MethodName} {bytes cc : ByteArray} {maxL nL mc ms n index : Nat} {ret : Option FieldType} {ws : List Cond} {rm : Room} {Pc : Array Value → State → Prop} {Qc : Array Value → State → Outcome → State → Prop} {XC : String → State → State → Prop} {free : Addr → Prop} {Ts : List Cond} {own C : String} {b : Addr} {As rest : List Value} {g : JFrame}
theorem vx_runVX {hh : List (Nat × Nat × Nat × Nat)} (S : CallFix p m c cc nL s args Ts own) (hM : vx_Met l y ws rm Pc Qc XC mc ms free) (cw : vx_CVW R s args own C index y bytes maxL ret hh ws rm mc ms n) (hp : PreV s H C b Pc As)
    (hg : g.method = m) (hn : As.length = n) (hsize : g.locals.size = nL) (hstack : g.stack = As.reverse ++ .ref b :: rest) (hW : 2 * g.monitorRoom + (rest.map fun v => v.category).sum ≤ 8) (hdg : decode cc g.pc = .ok (.invokevirtual index, 3)) (hf : cells + mc ≤ R.cells ∧ slots + ms ≤ R.slots) :
    vx_Run p l e R s m args below meth c H locs cells slots mc ms g rest (Qc (Value.ref b :: As).toArray) XC free := by
  obtain ⟨⟨hrc, hrs, hfr, hlo, hws, hcw⟩, hcode, hini, hy, hlen, hl, hin, hse⟩ := cw
  have hK : vx_Back l R p e below s args y 3 8 (PreOf R mc ms Pc) (PostOf Qc mc ms free) (vx_Post XC mc ms free) := vx_backW (hh := hh) (bytes := bytes) (maxL := maxL) (ret := ret) hM hp.1 hrc hrs hfr hlo hws hcw (fun a' U hW => word_at hW (Or.inl (by first | rfl | simp [Cond.onTables, Cond.keeps, Cond.steady])) hini)
  obtain ⟨hx, hb, hml, ho, -⟩ := S
  obtain ⟨-, ⟨cellB, hcB, hoB, hclB⟩, hPc⟩ := hp
  intro T hT X
  rcases vx_callVX X hx (C := C) (hh := hh) (bytes := bytes) (maxL := maxL) (ret := ret) ho hl hin hse hcode hy hK (by rw [hT]; exact hcB) hoB hclB hg (hsize.trans hml.symm) (argsL := As) (rest := rest) (fun sig h => hn.trans (hlen sig h)) hstack hW (by rw [hb]; exact hdg)
    (fun vm₁ hW₁ => ⟨hf.1, hf.2, hPc (T.setVm vm₁) hT hW₁⟩) with ⟨v, vm₁, ⟨U', l2, c2, s2⟩, hW₁, X', ⟨g', mk, t, L, e1, e2, hq, h1, hL, h2, h3⟩, st⟩ | ⟨q, vm₁, ⟨U', l2, c2, s2⟩, hW₁, X', ⟨g', mk, t, L, E, ce, e1, e2, hq, hce, hcv, hcl, h1, hL, h2, h3⟩, st⟩
  · dsimp only [Pt.U, Pt.locs, Pt.cells, Pt.slots] at X' e1 e2 h1 h2 h3 st
    subst h1; subst h2; subst h3
    exact Or.inl ⟨v, (T.setVm vm₁).calling g' mk (Value.ref b :: As).toArray, t, U', L, hT, X', hL, e1, e2, hq, st⟩
  · dsimp only [Pt.U, Pt.locs, Pt.cells, Pt.slots] at X' e1 e2 h1 h2 h3 st hcl
    subst h1; subst h2; subst h3
    exact Or.inr ⟨q, (T.setVm vm₁).calling g' mk (Value.ref b :: As).toArray, t, U', L, E, ce, hT, X', hL, e1, e2, hq, hce, hcv, vx_cls hW₁ hcl, st⟩
theorem vx_runSX {hh : List (Nat × Nat × Nat × Nat)} (S : CallFix p m c cc nL s args Ts own) (hM : vx_Met l y ws rm Pc Qc XC mc ms free) (cw : vx_CSW R s args own index y bytes maxL ret hh ws rm mc ms n) (hp : PreS s H Pc As)
    (hg : g.method = m) (hn : As.length = n) (hsize : g.locals.size = nL) (hstack : g.stack = As.reverse ++ rest) (hW : 2 * g.monitorRoom + (rest.map fun v => v.category).sum ≤ 8) (hdg : decode cc g.pc = .ok (.invokestatic index, 3)) (hf : cells + mc ≤ R.cells ∧ slots + ms ≤ R.slots) :
    vx_Run p l e R s m args below meth c H locs cells slots mc ms g rest (Qc As.toArray) XC free := by
  obtain ⟨⟨hrc, hrs, hfr, hlo, hws, hcw⟩, hcode, hini, hy, hlen, hl, hstt⟩ := cw
  have hK : vx_Back l R p e below s args y 3 8 (PreOf R mc ms Pc) (PostOf Qc mc ms free) (vx_Post XC mc ms free) := vx_backW (hh := hh) (bytes := bytes) (maxL := maxL) (ret := ret) hM hp.1 hrc hrs hfr hlo hws hcw (fun a' U hW => word_at hW (Or.inl (by first | rfl | simp [Cond.onTables, Cond.keeps, Cond.steady])) hini)
  obtain ⟨hx, hb, hml, ho, -⟩ := S
  intro T hT X
  rcases vx_callSX X hx (hh := hh) (bytes := bytes) (maxL := maxL) (ret := ret) ho hl hstt hini hcode hy hK hg (hsize.trans hml.symm) (argsL := As) (rest := rest) (fun sig h => hn.trans (hlen sig h)) hstack hW (by rw [hb]; exact hdg)
    (fun vm₁ hW₁ => ⟨hf.1, hf.2, hp.2 (T.setVm vm₁) hT hW₁⟩) with ⟨v, vm₁, ⟨U', l2, c2, s2⟩, hW₁, X', ⟨g', mk, t, L, e1, e2, hq, h1, hL, h2, h3⟩, st⟩ | ⟨q, vm₁, ⟨U', l2, c2, s2⟩, hW₁, X', ⟨g', mk, t, L, E, ce, e1, e2, hq, hce, hcv, hcl, h1, hL, h2, h3⟩, st⟩
  · dsimp only [Pt.U, Pt.locs, Pt.cells, Pt.slots] at X' e1 e2 h1 h2 h3 st
    subst h1; subst h2; subst h3
    exact Or.inl ⟨v, (T.setVm vm₁).calling g' mk As.toArray, t, U', L, hT, X', hL, e1, e2, hq, st⟩
  · dsimp only [Pt.U, Pt.locs, Pt.cells, Pt.slots] at X' e1 e2 h1 h2 h3 st hcl
    subst h1; subst h2; subst h3
    exact Or.inr ⟨q, (T.setVm vm₁).calling g' mk As.toArray, t, U', L, E, ce, hT, X', hL, e1, e2, hq, hce, hcv, vx_cls hW₁ hcl, st⟩
end
end VXH
theorem vx_ofWH {l : Launch} {y : MethodName} {ws ws' : List Cond} {rm : Room} {Pc : Array Value → State → Prop} {Qc : Array Value → State → Outcome → State → Prop} {XC : String → State → State → Prop} {mc ms : Nat} {free : Addr → Prop} {cc : ByteArray} {maxL : Nat} {ret : Option FieldType} {hh : List (Nat × Nat × Nat × Nat)}
    (hy : plainName y.cls = true) (hw : ws = Cond.codeWith y cc maxL ret hh :: ws')
    (body : ∀ p e s m args below meth c s₁, BodyLoose p l y (headSpec ws rm) cc maxL ret e s m args below meth c s₁ → c.maxLocals = maxL → Pc args s →
      W p l e (headSpec ws rm).room s m args below meth c s.heap [] 0 0 (vx_MQ below Qc XC args s mc ms free) (entryFrame m args maxL)) : vx_Met l y ws rm Pc Qc XC mc ms free := by
  refine MetFree.of_bodyS (code := cc) (maxLocals := maxL) (ret := ret) hy ?_ ?_
  · intro args s m h hn
    obtain ⟨m9, meth, c, hn9, h1, h2, h3, h4, -, h5, h6, -⟩ := Cond.codeWith_spec (atoms_spec (ws := ws) h _ (by rw [hw]; exact List.mem_cons_self))
    cases hn.symm.trans hn9
    exact ⟨meth, c, h1, h2, h3, h4, h5, h6⟩
  · intro p e s m args below meth c s₁ B hml hP _
    have hh0 : s₁.heap = s.heap := by rw [B.state]; rfl
    obtain ⟨t, a1, o, b1, b2, b3⟩ := body p e s m args below meth c s₁ B hml hP s₁ hh0 (Stand.of_body B)
    exact ⟨t, o, a1, b1, b2, b3⟩
/-! ===== END ===== -/
end
section
/-! ===== BEGIN printed: names, fields, word lists, decode rows ===== -/
def RX0 : String := "TapeRobotics$Drive"
def TX0 : u_T := fun k => match k with
  | 0 => ("TapeRobotics$Drive", "number", "I", true)
  | 1 => ("TapeRobotics$Drive", "pace", "I", true)
  | 2 => ("TapeRobotics$Drive", "step", "I", true)
  | 3 => ("TapeRobotics$Drive", "mounted", "LTapeRobotics$Tape;", false)
  | 4 => ("TapeRobotics$Drive", "place", "I", false)
  | 5 => ("TapeRobotics$Drive", "time", "I", false)
  | _ => ("TapeRobotics$Drive", "filesSinceCleaning", "I", false)
def tyX0 : Nat → FieldType := fun k => match k with
  | 0 => .int
  | 1 => .int
  | 2 => .int
  | 3 => .object "TapeRobotics$Tape"
  | 4 => .int
  | 5 => .int
  | _ => .int
abbrev wsX00 : List Cond := u_ws RX0 TX0 7
theorem nmX0 : ∀ a, a < 7 → ∀ b, b < 7 → a ≠ b → (TX0 a).2.1 ≠ (TX0 b).2.1 := by decide +kernel
theorem tyX0_ok : ∀ k, k < 7 → parseFieldDescriptor (TX0 k).2.2.1 = some (tyX0 k) := by decide +kernel
abbrev cX0_init : ByteArray := prog_2_method_1_code
def yX0_init : MethodName := ⟨RX0, "<init>", "(III)V"⟩
abbrev cX0_wantsCleaning : ByteArray := prog_2_method_2_code
def yX0_wantsCleaning : MethodName := ⟨RX0, "wantsCleaning", "()Z"⟩
abbrev cX0_spend : ByteArray := prog_2_method_3_code
def yX0_spend : MethodName := ⟨RX0, "spend", "(I)I"⟩
abbrev cX0_robotTime : ByteArray := prog_2_method_4_code
def yX0_robotTime : MethodName := ⟨RX0, "robotTime", "(I)I"⟩
abbrev cX0_wayTime : ByteArray := prog_2_method_5_code
def yX0_wayTime : MethodName := ⟨RX0, "wayTime", "(LTapeRobotics$Tape;II)I"⟩
abbrev cX0_fileTime : ByteArray := prog_2_method_6_code
def yX0_fileTime : MethodName := ⟨RX0, "fileTime", "(LTapeRobotics$Tape;II)I"⟩
abbrev cX0_passFile : ByteArray := prog_2_method_7_code
def yX0_passFile : MethodName := ⟨RX0, "passFile", "(LTapeRobotics$Tape;I)I"⟩
def RX1 : String := "TapeRobotics$Jobs"
def TX1 : u_T := fun k => match k with
  | 0 => ("TapeRobotics$Jobs", "count", "I", false)
  | 1 => ("TapeRobotics$Jobs", "doneCount", "I", false)
  | 2 => ("TapeRobotics$Jobs", "waitsAt", "[I", true)
  | 3 => ("TapeRobotics$Jobs", "files", "[I", true)
  | _ => ("TapeRobotics$Jobs", "deadlines", "[I", true)
def tyX1 : Nat → FieldType := fun k => match k with
  | 0 => .int
  | 1 => .int
  | 2 => .array .int
  | 3 => .array .int
  | _ => .array .int
abbrev wsX10 : List Cond := u_ws RX1 TX1 5
theorem nmX1 : ∀ a, a < 5 → ∀ b, b < 5 → a ≠ b → (TX1 a).2.1 ≠ (TX1 b).2.1 := by decide +kernel
theorem tyX1_ok : ∀ k, k < 5 → parseFieldDescriptor (TX1 k).2.2.1 = some (tyX1 k) := by decide +kernel
abbrev cX1_init : ByteArray := prog_3_method_1_code
def yX1_init : MethodName := ⟨RX1, "<init>", "()V"⟩
abbrev cX1_enter : ByteArray := prog_3_method_2_code
def yX1_enter : MethodName := ⟨RX1, "enter", "(III)I"⟩
abbrev cX1_finish : ByteArray := prog_3_method_3_code
def yX1_finish : MethodName := ⟨RX1, "finish", "(I)V"⟩
abbrev cX1_fileOf : ByteArray := prog_3_method_4_code
def yX1_fileOf : MethodName := ⟨RX1, "fileOf", "(I)I"⟩
abbrev cX1_deadlineOf : ByteArray := prog_3_method_5_code
def yX1_deadlineOf : MethodName := ⟨RX1, "deadlineOf", "(I)I"⟩
abbrev cX1_countAt : ByteArray := prog_3_method_6_code
def yX1_countAt : MethodName := ⟨RX1, "countAt", "(I)I"⟩
abbrev cX1_earliestDeadlineAt : ByteArray := prog_3_method_7_code
def yX1_earliestDeadlineAt : MethodName := ⟨RX1, "earliestDeadlineAt", "(I)I"⟩
abbrev cX1_collectAt : ByteArray := prog_3_method_8_code
def yX1_collectAt : MethodName := ⟨RX1, "collectAt", "(I[I)I"⟩
def RX2 : String := "TapeRobotics$Orders"
def TX2 : u_T := fun k => match k with
  | 0 => ("TapeRobotics$Orders", "count", "I", false)
  | 1 => ("TapeRobotics$Orders", "numbers", "[I", true)
  | 2 => ("TapeRobotics$Orders", "legs", "[I", true)
  | 3 => ("TapeRobotics$Orders", "rests", "[I", true)
  | 4 => ("TapeRobotics$Orders", "best", "[I", true)
  | _ => ("TapeRobotics$Orders", "order", "[I", true)
def tyX2 : Nat → FieldType := fun k => match k with
  | 0 => .int
  | 1 => .array .int
  | 2 => .array .int
  | 3 => .array .int
  | 4 => .array .int
  | _ => .array .int
abbrev wsX20 : List Cond := u_ws RX2 TX2 6
theorem nmX2 : ∀ a, a < 6 → ∀ b, b < 6 → a ≠ b → (TX2 a).2.1 ≠ (TX2 b).2.1 := by decide +kernel
theorem tyX2_ok : ∀ k, k < 6 → parseFieldDescriptor (TX2 k).2.2.1 = some (tyX2 k) := by decide +kernel
abbrev cX2_init : ByteArray := prog_4_method_1_code
def yX2_init : MethodName := ⟨RX2, "<init>", "()V"⟩
abbrev cX2_measure : ByteArray := prog_4_method_2_code
def yX2_measure : MethodName := ⟨RX2, "measure", "(LTapeRobotics$Drive;LTapeRobotics$Tape;LTapeRobotics$Jobs;)V"⟩
abbrev cX2_leg : ByteArray := prog_4_method_3_code
def yX2_leg : MethodName := ⟨RX2, "leg", "(II)I"⟩
abbrev cX2_timeOf : ByteArray := prog_4_method_4_code
def yX2_timeOf : MethodName := ⟨RX2, "timeOf", "([II)I"⟩
abbrev cX2_bestJobAt : ByteArray := prog_4_method_5_code
def yX2_bestJobAt : MethodName := ⟨RX2, "bestJobAt", "(I)I"⟩
abbrev cX2_findBest : ByteArray := prog_4_method_6_code
def yX2_findBest : MethodName := ⟨RX2, "findBest", "()V"⟩
abbrev cX2_restBehind : ByteArray := prog_4_method_7_code
def yX2_restBehind : MethodName := ⟨RX2, "restBehind", "(II)I"⟩
abbrev cX2_restThrough : ByteArray := prog_4_method_8_code
def yX2_restThrough : MethodName := ⟨RX2, "restThrough", "(III)I"⟩
abbrev cX2_bestFollower : ByteArray := prog_4_method_9_code
def yX2_bestFollower : MethodName := ⟨RX2, "bestFollower", "(II)I"⟩
abbrev cX2_timeByTrying : ByteArray := prog_4_method_10_code
def yX2_timeByTrying : MethodName := ⟨RX2, "timeByTrying", "()I"⟩
abbrev cX2_advanceOrder : ByteArray := prog_4_method_11_code
def yX2_advanceOrder : MethodName := ⟨RX2, "advanceOrder", "()Z"⟩
abbrev cX2_timeByInsertion : ByteArray := prog_4_method_12_code
def yX2_timeByInsertion : MethodName := ⟨RX2, "timeByInsertion", "()I"⟩
abbrev cX2_insert : ByteArray := prog_4_method_13_code
def yX2_insert : MethodName := ⟨RX2, "insert", "(I)V"⟩
abbrev cX2_swap : ByteArray := prog_4_method_14_code
def yX2_swap : MethodName := ⟨RX2, "swap", "(II)V"⟩
def RX3 : String := "TapeRobotics$Tape"
def TX3 : u_T := fun k => match k with
  | 0 => ("TapeRobotics$Tape", "number", "I", true)
  | 1 => ("TapeRobotics$Tape", "tracks", "I", true)
  | 2 => ("TapeRobotics$Tape", "length", "I", true)
  | 3 => ("TapeRobotics$Tape", "slot", "I", false)
  | 4 => ("TapeRobotics$Tape", "driveNumber", "I", false)
  | 5 => ("TapeRobotics$Tape", "hasLabel", "Z", false)
  | 6 => ("TapeRobotics$Tape", "fileCount", "I", false)
  | _ => ("TapeRobotics$Tape", "borders", "[I", true)
def tyX3 : Nat → FieldType := fun k => match k with
  | 0 => .int
  | 1 => .int
  | 2 => .int
  | 3 => .int
  | 4 => .int
  | 5 => .boolean
  | 6 => .int
  | _ => .array .int
abbrev wsX30 : List Cond := u_ws RX3 TX3 8
theorem nmX3 : ∀ a, a < 8 → ∀ b, b < 8 → a ≠ b → (TX3 a).2.1 ≠ (TX3 b).2.1 := by decide +kernel
theorem tyX3_ok : ∀ k, k < 8 → parseFieldDescriptor (TX3 k).2.2.1 = some (tyX3 k) := by decide +kernel
abbrev cX3_init : ByteArray := prog_5_method_1_code
def yX3_init : MethodName := ⟨RX3, "<init>", "(IIII)V"⟩
abbrev cX3_isInDrive : ByteArray := prog_5_method_2_code
def yX3_isInDrive : MethodName := ⟨RX3, "isInDrive", "()Z"⟩
abbrev cX3_places : ByteArray := prog_5_method_3_code
def yX3_places : MethodName := ⟨RX3, "places", "()I"⟩
abbrev cX3_beginOf : ByteArray := prog_5_method_4_code
def yX3_beginOf : MethodName := ⟨RX3, "beginOf", "(I)I"⟩
abbrev cX3_endOf : ByteArray := prog_5_method_5_code
def yX3_endOf : MethodName := ⟨RX3, "endOf", "(I)I"⟩
abbrev cX3_hasRoomFor : ByteArray := prog_5_method_6_code
def yX3_hasRoomFor : MethodName := ⟨RX3, "hasRoomFor", "(I)Z"⟩
abbrev cX3_append : ByteArray := prog_5_method_7_code
def yX3_append : MethodName := ⟨RX3, "append", "(I)I"⟩
abbrev cX3_trackOf : ByteArray := prog_5_method_8_code
def yX3_trackOf : MethodName := ⟨RX3, "trackOf", "(I)I"⟩
abbrev cX3_distanceAlong : ByteArray := prog_5_method_9_code
def yX3_distanceAlong : MethodName := ⟨RX3, "distanceAlong", "(I)I"⟩
def RX4 : String := "TapeRobotics"
def TX4 : u_T := fun k => match k with
  | 0 => ("TapeRobotics", "tapes", "[LTapeRobotics$Tape;", true)
  | 1 => ("TapeRobotics", "tapeCount", "I", false)
  | 2 => ("TapeRobotics", "drives", "[LTapeRobotics$Drive;", true)
  | 3 => ("TapeRobotics", "driveCount", "I", false)
  | 4 => ("TapeRobotics", "jobs", "LTapeRobotics$Jobs;", true)
  | _ => ("TapeRobotics", "orders", "LTapeRobotics$Orders;", true)
def tyX4 : Nat → FieldType := fun k => match k with
  | 0 => .array (.object "TapeRobotics$Tape")
  | 1 => .int
  | 2 => .array (.object "TapeRobotics$Drive")
  | 3 => .int
  | 4 => .object "TapeRobotics$Jobs"
  | _ => .object "TapeRobotics$Orders"
abbrev wsX40 : List Cond := u_ws RX4 TX4 6
theorem nmX4 : ∀ a, a < 6 → ∀ b, b < 6 → a ≠ b → (TX4 a).2.1 ≠ (TX4 b).2.1 := by decide +kernel
theorem tyX4_ok : ∀ k, k < 6 → parseFieldDescriptor (TX4 k).2.2.1 = some (tyX4 k) := by decide +kernel
abbrev cX4_init : ByteArray := prog_1_method_1_code
def yX4_init : MethodName := ⟨RX4, "<init>", "()V"⟩
abbrev cX4_tape : ByteArray := prog_1_method_2_code
def yX4_tape : MethodName := ⟨RX4, "tape", "(II)I"⟩
abbrev cX4_carry : ByteArray := prog_1_method_3_code
def yX4_carry : MethodName := ⟨RX4, "carry", "(II)I"⟩
abbrev cX4_placeOf : ByteArray := prog_1_method_4_code
def yX4_placeOf : MethodName := ⟨RX4, "placeOf", "(I)I"⟩
abbrev cX4_files : ByteArray := prog_1_method_5_code
def yX4_files : MethodName := ⟨RX4, "files", "(I)I"⟩
abbrev cX4_start : ByteArray := prog_1_method_6_code
def yX4_start : MethodName := ⟨RX4, "start", "(II)I"⟩
abbrev cX4_along : ByteArray := prog_1_method_7_code
def yX4_along : MethodName := ⟨RX4, "along", "(II)I"⟩
abbrev cX4_drive : ByteArray := prog_1_method_8_code
def yX4_drive : MethodName := ⟨RX4, "drive", "(I)I"⟩
abbrev cX4_mount : ByteArray := prog_1_method_9_code
def yX4_mount : MethodName := ⟨RX4, "mount", "(II)I"⟩
abbrev cX4_unmount : ByteArray := prog_1_method_10_code
def yX4_unmount : MethodName := ⟨RX4, "unmount", "(I)I"⟩
abbrev cX4_write : ByteArray := prog_1_method_11_code
def yX4_write : MethodName := ⟨RX4, "write", "(II)I"⟩
abbrev cX4_read : ByteArray := prog_1_method_12_code
def yX4_read : MethodName := ⟨RX4, "read", "(II)I"⟩
abbrev cX4_clean : ByteArray := prog_1_method_13_code
def yX4_clean : MethodName := ⟨RX4, "clean", "(I)I"⟩
abbrev cX4_clock : ByteArray := prog_1_method_14_code
def yX4_clock : MethodName := ⟨RX4, "clock", "(I)I"⟩
abbrev cX4_stands : ByteArray := prog_1_method_15_code
def yX4_stands : MethodName := ⟨RX4, "stands", "(I)I"⟩
abbrev cX4_job : ByteArray := prog_1_method_16_code
def yX4_job : MethodName := ⟨RX4, "job", "(III)I"⟩
abbrev cX4_waiting : ByteArray := prog_1_method_17_code
def yX4_waiting : MethodName := ⟨RX4, "waiting", "(I)I"⟩
abbrev cX4_next : ByteArray := prog_1_method_18_code
def yX4_next : MethodName := ⟨RX4, "next", "()I"⟩
abbrev cX4_bestTime : ByteArray := prog_1_method_19_code
def yX4_bestTime : MethodName := ⟨RX4, "bestTime", "(I)I"⟩
abbrev cX4_bestJob : ByteArray := prog_1_method_20_code
def yX4_bestJob : MethodName := ⟨RX4, "bestJob", "(II)I"⟩
abbrev cX4_insertedTime : ByteArray := prog_1_method_21_code
def yX4_insertedTime : MethodName := ⟨RX4, "insertedTime", "(I)I"⟩
abbrev cX4_triedTime : ByteArray := prog_1_method_22_code
def yX4_triedTime : MethodName := ⟨RX4, "triedTime", "(I)I"⟩
abbrev cX4_work : ByteArray := prog_1_method_23_code
def yX4_work : MethodName := ⟨RX4, "work", "(I)I"⟩
abbrev cX4_done : ByteArray := prog_1_method_24_code
def yX4_done : MethodName := ⟨RX4, "done", "()I"⟩
abbrev cX4_lose : ByteArray := prog_1_method_25_code
def yX4_lose : MethodName := ⟨RX4, "lose", "(I)I"⟩
abbrev cX4_inventory : ByteArray := prog_1_method_26_code
def yX4_inventory : MethodName := ⟨RX4, "inventory", "()I"⟩
abbrev cX4_tapeNumbered : ByteArray := prog_1_method_27_code
def yX4_tapeNumbered : MethodName := ⟨RX4, "tapeNumbered", "(I)LTapeRobotics$Tape;"⟩
abbrev cX4_driveNumbered : ByteArray := prog_1_method_28_code
def yX4_driveNumbered : MethodName := ⟨RX4, "driveNumbered", "(I)LTapeRobotics$Drive;"⟩
abbrev cX4_mountedIn : ByteArray := prog_1_method_29_code
def yX4_mountedIn : MethodName := ⟨RX4, "mountedIn", "(LTapeRobotics$Drive;)LTapeRobotics$Tape;"⟩
abbrev cX4_refuseMissingFile : ByteArray := prog_1_method_30_code
def yX4_refuseMissingFile : MethodName := ⟨RX4, "refuseMissingFile", "(LTapeRobotics$Tape;I)V"⟩
abbrev cX4_refuseUnclean : ByteArray := prog_1_method_31_code
def yX4_refuseUnclean : MethodName := ⟨RX4, "refuseUnclean", "(LTapeRobotics$Drive;)V"⟩
abbrev cX4_measureOrders : ByteArray := prog_1_method_32_code
def yX4_measureOrders : MethodName := ⟨RX4, "measureOrders", "(LTapeRobotics$Drive;)V"⟩
abbrev cX4_isFree : ByteArray := prog_1_method_33_code
def yX4_isFree : MethodName := ⟨RX4, "isFree", "(I)Z"⟩
abbrev cX4_lowestFreeSlot : ByteArray := prog_1_method_34_code
def yX4_lowestFreeSlot : MethodName := ⟨RX4, "lowestFreeSlot", "()I"⟩
abbrev cX4_highestSlotWithTape : ByteArray := prog_1_method_35_code
def yX4_highestSlotWithTape : MethodName := ⟨RX4, "highestSlotWithTape", "()I"⟩
abbrev cX4_countWithoutLabels : ByteArray := prog_1_method_36_code
def yX4_countWithoutLabels : MethodName := ⟨RX4, "countWithoutLabels", "()I"⟩
abbrev cX4_at : ByteArray := prog_1_method_37_code
def yX4_at : MethodName := ⟨RX4, "at", "([II)I"⟩
abbrev cX4_put : ByteArray := prog_1_method_38_code
def yX4_put : MethodName := ⟨RX4, "put", "([III)V"⟩
def RX5 : String := "TapeRoboticsModel"
def TX5 : u_T := fun k => match k with
  | 0 => ("TapeRoboticsModel", "tapes", "I", false)
  | 1 => ("TapeRoboticsModel", "tracks", "[I", true)
  | 2 => ("TapeRoboticsModel", "length", "[I", true)
  | 3 => ("TapeRoboticsModel", "slot", "[I", true)
  | 4 => ("TapeRoboticsModel", "mounted", "[I", true)
  | 5 => ("TapeRoboticsModel", "lost", "[Z", true)
  | 6 => ("TapeRoboticsModel", "files", "[I", true)
  | 7 => ("TapeRoboticsModel", "start", "[I", true)
  | 8 => ("TapeRoboticsModel", "blocks", "[I", true)
  | 9 => ("TapeRoboticsModel", "drives", "I", false)
  | 10 => ("TapeRoboticsModel", "make", "[I", true)
  | 11 => ("TapeRoboticsModel", "clock", "[I", true)
  | 12 => ("TapeRoboticsModel", "count", "[I", true)
  | 13 => ("TapeRoboticsModel", "held", "[I", true)
  | 14 => ("TapeRoboticsModel", "stand", "[I", true)
  | 15 => ("TapeRoboticsModel", "jobs", "I", false)
  | 16 => ("TapeRoboticsModel", "jobTape", "[I", true)
  | 17 => ("TapeRoboticsModel", "jobFile", "[I", true)
  | 18 => ("TapeRoboticsModel", "deadline", "[I", true)
  | 19 => ("TapeRoboticsModel", "finished", "[Z", true)
  | 20 => ("TapeRoboticsModel", "many", "I", false)
  | 21 => ("TapeRoboticsModel", "list", "[I", true)
  | 22 => ("TapeRoboticsModel", "order", "[I", true)
  | 23 => ("TapeRoboticsModel", "least", "[I", true)
  | 24 => ("TapeRoboticsModel", "row", "[I", true)
  | _ => ("TapeRoboticsModel", "thrown", "I", false)
def tyX5 : Nat → FieldType := fun k => match k with
  | 0 => .int
  | 1 => .array .int
  | 2 => .array .int
  | 3 => .array .int
  | 4 => .array .int
  | 5 => .array .boolean
  | 6 => .array .int
  | 7 => .array .int
  | 8 => .array .int
  | 9 => .int
  | 10 => .array .int
  | 11 => .array .int
  | 12 => .array .int
  | 13 => .array .int
  | 14 => .array .int
  | 15 => .int
  | 16 => .array .int
  | 17 => .array .int
  | 18 => .array .int
  | 19 => .array .boolean
  | 20 => .int
  | 21 => .array .int
  | 22 => .array .int
  | 23 => .array .int
  | 24 => .array .int
  | _ => .int
abbrev wsX50 : List Cond := u_ws RX5 TX5 26
theorem nmX5 : ∀ a, a < 26 → ∀ b, b < 26 → a ≠ b → (TX5 a).2.1 ≠ (TX5 b).2.1 := by decide +kernel
theorem tyX5_ok : ∀ k, k < 26 → parseFieldDescriptor (TX5 k).2.2.1 = some (tyX5 k) := by decide +kernel
abbrev cX5_init : ByteArray := prog_7_method_1_code
def yX5_init : MethodName := ⟨RX5, "<init>", "()V"⟩
abbrev cX5_thrown : ByteArray := prog_7_method_2_code
def yX5_thrown : MethodName := ⟨RX5, "thrown", "()I"⟩
abbrev cX5_may : ByteArray := prog_7_method_3_code
def yX5_may : MethodName := ⟨RX5, "may", "(Z)Z"⟩
abbrev cX5_mayBoth : ByteArray := prog_7_method_4_code
def yX5_mayBoth : MethodName := ⟨RX5, "mayBoth", "(ZZ)Z"⟩
abbrev cX5_mayAll : ByteArray := prog_7_method_5_code
def yX5_mayAll : MethodName := ⟨RX5, "mayAll", "(ZZZ)Z"⟩
abbrev cX5_isIn : ByteArray := prog_7_method_6_code
def yX5_isIn : MethodName := ⟨RX5, "isIn", "(III)Z"⟩
abbrev cX5_size : ByteArray := prog_7_method_7_code
def yX5_size : MethodName := ⟨RX5, "size", "(I)I"⟩
abbrev cX5_isTape : ByteArray := prog_7_method_8_code
def yX5_isTape : MethodName := ⟨RX5, "isTape", "(I)Z"⟩
abbrev cX5_isDrive : ByteArray := prog_7_method_9_code
def yX5_isDrive : MethodName := ⟨RX5, "isDrive", "(I)Z"⟩
abbrev cX5_isFile : ByteArray := prog_7_method_10_code
def yX5_isFile : MethodName := ⟨RX5, "isFile", "(II)Z"⟩
abbrev cX5_hasTape : ByteArray := prog_7_method_11_code
def yX5_hasTape : MethodName := ⟨RX5, "hasTape", "(I)Z"⟩
abbrev cX5_isClean : ByteArray := prog_7_method_12_code
def yX5_isClean : MethodName := ⟨RX5, "isClean", "(I)Z"⟩
abbrev cX5_isFree : ByteArray := prog_7_method_13_code
def yX5_isFree : MethodName := ⟨RX5, "isFree", "(I)Z"⟩
abbrev cX5_tape : ByteArray := prog_7_method_14_code
def yX5_tape : MethodName := ⟨RX5, "tape", "(II)I"⟩
abbrev cX5_carry : ByteArray := prog_7_method_15_code
def yX5_carry : MethodName := ⟨RX5, "carry", "(II)I"⟩
abbrev cX5_placeOf : ByteArray := prog_7_method_16_code
def yX5_placeOf : MethodName := ⟨RX5, "placeOf", "(I)I"⟩
abbrev cX5_files : ByteArray := prog_7_method_17_code
def yX5_files : MethodName := ⟨RX5, "files", "(I)I"⟩
abbrev cX5_start : ByteArray := prog_7_method_18_code
def yX5_start : MethodName := ⟨RX5, "start", "(II)I"⟩
abbrev cX5_trackOf : ByteArray := prog_7_method_19_code
def yX5_trackOf : MethodName := ⟨RX5, "trackOf", "(II)I"⟩
abbrev cX5_alongOf : ByteArray := prog_7_method_20_code
def yX5_alongOf : MethodName := ⟨RX5, "alongOf", "(II)I"⟩
abbrev cX5_along : ByteArray := prog_7_method_21_code
def yX5_along : MethodName := ⟨RX5, "along", "(II)I"⟩
abbrev cX5_drive : ByteArray := prog_7_method_22_code
def yX5_drive : MethodName := ⟨RX5, "drive", "(I)I"⟩
abbrev cX5_way : ByteArray := prog_7_method_23_code
def yX5_way : MethodName := ⟨RX5, "way", "(III)I"⟩
abbrev cX5_robot : ByteArray := prog_7_method_24_code
def yX5_robot : MethodName := ⟨RX5, "robot", "(II)I"⟩
abbrev cX5_mount : ByteArray := prog_7_method_25_code
def yX5_mount : MethodName := ⟨RX5, "mount", "(II)I"⟩
abbrev cX5_unmount : ByteArray := prog_7_method_26_code
def yX5_unmount : MethodName := ⟨RX5, "unmount", "(I)I"⟩
abbrev cX5_run : ByteArray := prog_7_method_27_code
def yX5_run : MethodName := ⟨RX5, "run", "(III)I"⟩
abbrev cX5_behind : ByteArray := prog_7_method_28_code
def yX5_behind : MethodName := ⟨RX5, "behind", "(I)I"⟩
abbrev cX5_write : ByteArray := prog_7_method_29_code
def yX5_write : MethodName := ⟨RX5, "write", "(II)I"⟩
abbrev cX5_read : ByteArray := prog_7_method_30_code
def yX5_read : MethodName := ⟨RX5, "read", "(II)I"⟩
abbrev cX5_clean : ByteArray := prog_7_method_31_code
def yX5_clean : MethodName := ⟨RX5, "clean", "(I)I"⟩
abbrev cX5_clock : ByteArray := prog_7_method_32_code
def yX5_clock : MethodName := ⟨RX5, "clock", "(I)I"⟩
abbrev cX5_stands : ByteArray := prog_7_method_33_code
def yX5_stands : MethodName := ⟨RX5, "stands", "(I)I"⟩
abbrev cX5_waits : ByteArray := prog_7_method_34_code
def yX5_waits : MethodName := ⟨RX5, "waits", "(II)Z"⟩
abbrev cX5_waitingAt : ByteArray := prog_7_method_35_code
def yX5_waitingAt : MethodName := ⟨RX5, "waitingAt", "(I)I"⟩
abbrev cX5_job : ByteArray := prog_7_method_36_code
def yX5_job : MethodName := ⟨RX5, "job", "(III)I"⟩
abbrev cX5_waiting : ByteArray := prog_7_method_37_code
def yX5_waiting : MethodName := ⟨RX5, "waiting", "(I)I"⟩
abbrev cX5_earliest : ByteArray := prog_7_method_38_code
def yX5_earliest : MethodName := ⟨RX5, "earliest", "(I)I"⟩
abbrev cX5_next : ByteArray := prog_7_method_39_code
def yX5_next : MethodName := ⟨RX5, "next", "()I"⟩
abbrev cX5_startOf : ByteArray := prog_7_method_40_code
def yX5_startOf : MethodName := ⟨RX5, "startOf", "(I)I"⟩
abbrev cX5_blocksOf : ByteArray := prog_7_method_41_code
def yX5_blocksOf : MethodName := ⟨RX5, "blocksOf", "(I)I"⟩
abbrev cX5_timeOf : ByteArray := prog_7_method_42_code
def yX5_timeOf : MethodName := ⟨RX5, "timeOf", "(III)I"⟩
abbrev cX5_listJobs : ByteArray := prog_7_method_43_code
def yX5_listJobs : MethodName := ⟨RX5, "listJobs", "(I)V"⟩
abbrev cX5_arrange : ByteArray := prog_7_method_44_code
def yX5_arrange : MethodName := ⟨RX5, "arrange", "(I)I"⟩
abbrev cX5_bestTime : ByteArray := prog_7_method_45_code
def yX5_bestTime : MethodName := ⟨RX5, "bestTime", "(I)I"⟩
abbrev cX5_bestJob : ByteArray := prog_7_method_46_code
def yX5_bestJob : MethodName := ⟨RX5, "bestJob", "(II)I"⟩
abbrev cX5_timeWith : ByteArray := prog_7_method_47_code
def yX5_timeWith : MethodName := ⟨RX5, "timeWith", "(IIII)I"⟩
abbrev cX5_insertedTime : ByteArray := prog_7_method_48_code
def yX5_insertedTime : MethodName := ⟨RX5, "insertedTime", "(I)I"⟩
abbrev cX5_triedTime : ByteArray := prog_7_method_49_code
def yX5_triedTime : MethodName := ⟨RX5, "triedTime", "(I)I"⟩
abbrev cX5_work : ByteArray := prog_7_method_50_code
def yX5_work : MethodName := ⟨RX5, "work", "(I)I"⟩
abbrev cX5_done : ByteArray := prog_7_method_51_code
def yX5_done : MethodName := ⟨RX5, "done", "()I"⟩
abbrev cX5_unlabelled : ByteArray := prog_7_method_52_code
def yX5_unlabelled : MethodName := ⟨RX5, "unlabelled", "()I"⟩
abbrev cX5_lose : ByteArray := prog_7_method_53_code
def yX5_lose : MethodName := ⟨RX5, "lose", "(I)I"⟩
abbrev cX5_inventory : ByteArray := prog_7_method_54_code
def yX5_inventory : MethodName := ⟨RX5, "inventory", "()I"⟩
def RJ9 : String := "java/lang/Math"
def TJ9 : u_T := fun k => match k with
  | _ => ("", "", "", false)
def tyJ9 : Nat → FieldType := fun k => match k with
  | _ => .int
abbrev wsJ90 : List Cond := u_ws RJ9 TJ9 0
theorem nmJ9 : ∀ a, a < 0 → ∀ b, b < 0 → a ≠ b → (TJ9 a).2.1 ≠ (TJ9 b).2.1 := by decide +kernel
theorem tyJ9_ok : ∀ k, k < 0 → parseFieldDescriptor (TJ9 k).2.2.1 = some (tyJ9 k) := by decide +kernel
abbrev cJ9_abs_0f7a4 : ByteArray := prog_12_method_59_code
def yJ9_abs_0f7a4 : MethodName := ⟨RJ9, "abs", "(I)I"⟩
abbrev cJ9_max_7cf53 : ByteArray := prog_12_method_65_code
def yJ9_max_7cf53 : MethodName := ⟨RJ9, "max", "(II)I"⟩
abbrev cJ9_min_7cf53 : ByteArray := prog_12_method_69_code
def yJ9_min_7cf53 : MethodName := ⟨RJ9, "min", "(II)I"⟩
def RJ0 : String := "java/lang/String"
def TJ0 : u_T := fun k => match k with
  | _ => ("", "", "", false)
def tyJ0 : Nat → FieldType := fun k => match k with
  | _ => .int
abbrev wsJ00 : List Cond := u_ws RJ0 TJ0 0
theorem nmJ0 : ∀ a, a < 0 → ∀ b, b < 0 → a ≠ b → (TJ0 a).2.1 ≠ (TJ0 b).2.1 := by decide +kernel
theorem tyJ0_ok : ∀ k, k < 0 → parseFieldDescriptor (TJ0 k).2.2.1 = some (tyJ0 k) := by decide +kernel
def RL : String := "TapeRoboticsLaw"
abbrev cL_tape : ByteArray := method_3_code
def yL_tape : MethodName := ⟨RL, "tape", "(LTapeRobotics;II[J)I"⟩
abbrev cL_carry : ByteArray := method_4_code
def yL_carry : MethodName := ⟨RL, "carry", "(LTapeRobotics;II[J)I"⟩
abbrev cL_placeOf : ByteArray := method_5_code
def yL_placeOf : MethodName := ⟨RL, "placeOf", "(LTapeRobotics;I[J)I"⟩
abbrev cL_files : ByteArray := method_6_code
def yL_files : MethodName := ⟨RL, "files", "(LTapeRobotics;I[J)I"⟩
abbrev cL_start : ByteArray := method_7_code
def yL_start : MethodName := ⟨RL, "start", "(LTapeRobotics;II[J)I"⟩
abbrev cL_along : ByteArray := method_8_code
def yL_along : MethodName := ⟨RL, "along", "(LTapeRobotics;II[J)I"⟩
abbrev cL_drive : ByteArray := method_9_code
def yL_drive : MethodName := ⟨RL, "drive", "(LTapeRobotics;I[J)I"⟩
abbrev cL_mount : ByteArray := method_10_code
def yL_mount : MethodName := ⟨RL, "mount", "(LTapeRobotics;II[J)I"⟩
abbrev cL_unmount : ByteArray := method_11_code
def yL_unmount : MethodName := ⟨RL, "unmount", "(LTapeRobotics;I[J)I"⟩
abbrev cL_write : ByteArray := method_12_code
def yL_write : MethodName := ⟨RL, "write", "(LTapeRobotics;II[J)I"⟩
abbrev cL_read : ByteArray := method_13_code
def yL_read : MethodName := ⟨RL, "read", "(LTapeRobotics;II[J)I"⟩
abbrev cL_clean : ByteArray := method_14_code
def yL_clean : MethodName := ⟨RL, "clean", "(LTapeRobotics;I[J)I"⟩
abbrev cL_clock : ByteArray := method_15_code
def yL_clock : MethodName := ⟨RL, "clock", "(LTapeRobotics;I[J)I"⟩
abbrev cL_stands : ByteArray := method_16_code
def yL_stands : MethodName := ⟨RL, "stands", "(LTapeRobotics;I[J)I"⟩
abbrev cL_job : ByteArray := method_17_code
def yL_job : MethodName := ⟨RL, "job", "(LTapeRobotics;III[J)I"⟩
abbrev cL_waiting : ByteArray := method_18_code
def yL_waiting : MethodName := ⟨RL, "waiting", "(LTapeRobotics;I[J)I"⟩
abbrev cL_bestTime : ByteArray := method_19_code
def yL_bestTime : MethodName := ⟨RL, "bestTime", "(LTapeRobotics;I[J)I"⟩
abbrev cL_bestJob : ByteArray := method_20_code
def yL_bestJob : MethodName := ⟨RL, "bestJob", "(LTapeRobotics;II[J)I"⟩
abbrev cL_insertedTime : ByteArray := method_21_code
def yL_insertedTime : MethodName := ⟨RL, "insertedTime", "(LTapeRobotics;I[J)I"⟩
abbrev cL_triedTime : ByteArray := method_22_code
def yL_triedTime : MethodName := ⟨RL, "triedTime", "(LTapeRobotics;I[J)I"⟩
abbrev cL_work : ByteArray := method_23_code
def yL_work : MethodName := ⟨RL, "work", "(LTapeRobotics;I[J)I"⟩
abbrev cL_lose : ByteArray := method_24_code
def yL_lose : MethodName := ⟨RL, "lose", "(LTapeRobotics;I[J)I"⟩
abbrev cL_law : ByteArray := code
def yL_law : MethodName := ⟨RL, "law", "([I)Z"⟩
def wsX0_init : List Cond := .code yX0_init cX0_init 4 none :: ([.methodLink RX0 3 objectInit, .instanceMethod objectInit, .code objectInit ⟨#[0xb1]⟩ 1 none, .fieldLink RX0 9 "TapeRobotics$Drive" "mounted" "LTapeRobotics$Tape;", .fieldLink RX0 15 "TapeRobotics$Drive" "place" "I", .fieldLink RX0 19 "TapeRobotics$Drive" "time" "I", .fieldLink RX0 22 "TapeRobotics$Drive" "filesSinceCleaning" "I", .fieldLink RX0 25 "TapeRobotics$Drive" "number" "I", .fieldLink RX0 28 "TapeRobotics$Drive" "pace" "I", .fieldLink RX0 31 "TapeRobotics$Drive" "step" "I"] ++ wsX00)
def wsX0_wantsCleaning : List Cond := .code yX0_wantsCleaning cX0_wantsCleaning 1 (some .boolean) :: ([.fieldLink RX0 22 "TapeRobotics$Drive" "filesSinceCleaning" "I"] ++ wsX00)
def wsX0_spend : List Cond := .code yX0_spend cX0_spend 2 (some .int) :: ([.fieldLink RX0 19 "TapeRobotics$Drive" "time" "I"] ++ wsX00)
def wsX0_robotTime : List Cond := .code yX0_robotTime cX0_robotTime 3 (some .int) :: ([.fieldLink RX0 25 "TapeRobotics$Drive" "number" "I", .methodLink RX0 34 Lib.Math.abs.name, .static Lib.Math.abs.name, .initialized "java/lang/Math", .code Lib.Math.abs.name Lib.Math.abs.code 1 (some .int)] ++ wsX00)
def wsX3_trackOf : List Cond := .code yX3_trackOf cX3_trackOf 3 (some .int) :: ([.fieldLink RX3 32 "TapeRobotics$Tape" "length" "I", .fieldLink RX3 29 "TapeRobotics$Tape" "tracks" "I"] ++ wsX30)
def wsX3_distanceAlong : List Cond := .code yX3_distanceAlong cX3_distanceAlong 4 (some .int) :: ([.fieldLink RX3 32 "TapeRobotics$Tape" "length" "I", .methodLink RX3 57 Lib.Math.min.name, .static Lib.Math.min.name, .initialized "java/lang/Math", .code Lib.Math.min.name Lib.Math.min.code 2 (some .int), .methodLink RX3 54 yX3_trackOf, .instanceMethod yX3_trackOf, .selects RX3 yX3_trackOf yX3_trackOf, .initialized RX3, .code yX3_trackOf cX3_trackOf 3 (some .int), .fieldLink RX3 29 "TapeRobotics$Tape" "tracks" "I"] ++ wsX30)
def wsX0_wayTime : List Cond := .code yX0_wayTime cX0_wayTime 6 (some .int) :: ([.methodLink RX0 34 Lib.Math.abs.name, .static Lib.Math.abs.name, .initialized "java/lang/Math", .code Lib.Math.abs.name Lib.Math.abs.code 1 (some .int), .fieldLink RX0 28 "TapeRobotics$Drive" "pace" "I", .fieldLink RX0 31 "TapeRobotics$Drive" "step" "I", .instanceMethod yX3_distanceAlong, .initialized RX3, .selects RX3 yX3_distanceAlong yX3_distanceAlong, .code yX3_distanceAlong cX3_distanceAlong 4 (some .int), .fieldLink RX3 32 "TapeRobotics$Tape" "length" "I", .methodLink RX3 57 Lib.Math.min.name, .static Lib.Math.min.name, .code Lib.Math.min.name Lib.Math.min.code 2 (some .int), .methodLink RX3 54 yX3_trackOf, .instanceMethod yX3_trackOf, .selects RX3 yX3_trackOf yX3_trackOf, .code yX3_trackOf cX3_trackOf 3 (some .int), .fieldLink RX3 29 "TapeRobotics$Tape" "tracks" "I"] ++ wsX00 ++ wsX30)
def wsX4_at : List Cond := .code yX4_at cX4_at 2 (some .int) :: ([])
def wsX3_beginOf : List Cond := .code yX3_beginOf cX3_beginOf 2 (some .int) :: ([.fieldLink RX3 22 "TapeRobotics$Tape" "borders" "[I", .static yX4_at, .initialized RX4, .code yX4_at cX4_at 2 (some .int)] ++ wsX30)
def wsX3_endOf : List Cond := .code yX3_endOf cX3_endOf 2 (some .int) :: ([.fieldLink RX3 22 "TapeRobotics$Tape" "borders" "[I", .static yX4_at, .initialized RX4, .code yX4_at cX4_at 2 (some .int)] ++ wsX30)
def wsX0_fileTime_r1 : List Cond := [Cond.instanceMethod yX3_beginOf, Cond.initialized RX3, Cond.selects RX3 yX3_beginOf yX3_beginOf, Cond.code yX3_beginOf cX3_beginOf 2 (some .int), Cond.fieldLink RX3 22 "TapeRobotics$Tape" "borders" "[I", Cond.static yX4_at, Cond.initialized RX4, Cond.code yX4_at cX4_at 2 (some .int), Cond.methodLink RX0 51 yX0_wayTime, Cond.instanceMethod yX0_wayTime, Cond.selects RX0 yX0_wayTime yX0_wayTime, Cond.initialized RX0, Cond.code yX0_wayTime cX0_wayTime 6 (some .int), Cond.methodLink RX0 34 Lib.Math.abs.name, Cond.static Lib.Math.abs.name, Cond.initialized "java/lang/Math", Cond.code Lib.Math.abs.name Lib.Math.abs.code 1 (some .int), Cond.fieldLink RX0 28 "TapeRobotics$Drive" "pace" "I", Cond.fieldLink RX0 31 "TapeRobotics$Drive" "step" "I", Cond.instanceMethod yX3_distanceAlong, Cond.selects RX3 yX3_distanceAlong yX3_distanceAlong, Cond.code yX3_distanceAlong cX3_distanceAlong 4 (some .int), Cond.fieldLink RX3 32 "TapeRobotics$Tape" "length" "I", Cond.methodLink RX3 57 Lib.Math.min.name]
def wsX0_fileTime_r2 : List Cond := [Cond.static Lib.Math.min.name, Cond.code Lib.Math.min.name Lib.Math.min.code 2 (some .int), Cond.methodLink RX3 54 yX3_trackOf, Cond.instanceMethod yX3_trackOf, Cond.selects RX3 yX3_trackOf yX3_trackOf, Cond.code yX3_trackOf cX3_trackOf 3 (some .int), Cond.fieldLink RX3 29 "TapeRobotics$Tape" "tracks" "I", Cond.instanceMethod yX3_endOf, Cond.selects RX3 yX3_endOf yX3_endOf, Cond.code yX3_endOf cX3_endOf 2 (some .int)]
def wsX0_fileTime : List Cond := .code yX0_fileTime cX0_fileTime 5 (some .int) :: ((wsX0_fileTime_r1 ++ wsX0_fileTime_r2) ++ wsX30 ++ wsX00)
def wsX0_passFile_r1 : List Cond := [Cond.fieldLink RX0 15 "TapeRobotics$Drive" "place" "I", Cond.fieldLink RX0 22 "TapeRobotics$Drive" "filesSinceCleaning" "I", Cond.methodLink RX0 58 yX0_fileTime, Cond.instanceMethod yX0_fileTime, Cond.selects RX0 yX0_fileTime yX0_fileTime, Cond.initialized RX0, Cond.code yX0_fileTime cX0_fileTime 5 (some .int), Cond.instanceMethod yX3_beginOf, Cond.initialized RX3, Cond.selects RX3 yX3_beginOf yX3_beginOf, Cond.code yX3_beginOf cX3_beginOf 2 (some .int), Cond.fieldLink RX3 22 "TapeRobotics$Tape" "borders" "[I", Cond.static yX4_at, Cond.initialized RX4, Cond.code yX4_at cX4_at 2 (some .int), Cond.methodLink RX0 51 yX0_wayTime, Cond.instanceMethod yX0_wayTime, Cond.selects RX0 yX0_wayTime yX0_wayTime, Cond.code yX0_wayTime cX0_wayTime 6 (some .int), Cond.methodLink RX0 34 Lib.Math.abs.name, Cond.static Lib.Math.abs.name, Cond.initialized "java/lang/Math", Cond.code Lib.Math.abs.name Lib.Math.abs.code 1 (some .int), Cond.fieldLink RX0 28 "TapeRobotics$Drive" "pace" "I"]
def wsX0_passFile_r2 : List Cond := [Cond.fieldLink RX0 31 "TapeRobotics$Drive" "step" "I", Cond.instanceMethod yX3_distanceAlong, Cond.selects RX3 yX3_distanceAlong yX3_distanceAlong, Cond.code yX3_distanceAlong cX3_distanceAlong 4 (some .int), Cond.fieldLink RX3 32 "TapeRobotics$Tape" "length" "I", Cond.methodLink RX3 57 Lib.Math.min.name, Cond.static Lib.Math.min.name, Cond.code Lib.Math.min.name Lib.Math.min.code 2 (some .int), Cond.methodLink RX3 54 yX3_trackOf, Cond.instanceMethod yX3_trackOf, Cond.selects RX3 yX3_trackOf yX3_trackOf, Cond.code yX3_trackOf cX3_trackOf 3 (some .int), Cond.fieldLink RX3 29 "TapeRobotics$Tape" "tracks" "I", Cond.instanceMethod yX3_endOf, Cond.selects RX3 yX3_endOf yX3_endOf, Cond.code yX3_endOf cX3_endOf 2 (some .int), Cond.methodLink RX0 61 yX0_spend, Cond.instanceMethod yX0_spend, Cond.selects RX0 yX0_spend yX0_spend, Cond.code yX0_spend cX0_spend 2 (some .int), Cond.fieldLink RX0 19 "TapeRobotics$Drive" "time" "I"]
def wsX0_passFile : List Cond := .code yX0_passFile cX0_passFile 4 (some .int) :: ((wsX0_passFile_r1 ++ wsX0_passFile_r2) ++ wsX00 ++ wsX30)
def wsX1_init : List Cond := .code yX1_init cX1_init 1 none :: ([.methodLink RX1 3 objectInit, .instanceMethod objectInit, .code objectInit ⟨#[0xb1]⟩ 1 none, .fieldLink RX1 9 "TapeRobotics$Jobs" "count" "I", .fieldLink RX1 15 "TapeRobotics$Jobs" "doneCount" "I", .arrayClass .int, .fieldLink RX1 18 "TapeRobotics$Jobs" "waitsAt" "[I", .fieldLink RX1 22 "TapeRobotics$Jobs" "files" "[I", .fieldLink RX1 25 "TapeRobotics$Jobs" "deadlines" "[I"] ++ wsX10)
def wsX4_put : List Cond := .code yX4_put cX4_put 3 none :: ([])
def wsX1_enter : List Cond := .code yX1_enter cX1_enter 4 (some .int) :: ([.fieldLink RX1 18 "TapeRobotics$Jobs" "waitsAt" "[I", .fieldLink RX1 9 "TapeRobotics$Jobs" "count" "I", .fieldLink RX1 22 "TapeRobotics$Jobs" "files" "[I", .fieldLink RX1 25 "TapeRobotics$Jobs" "deadlines" "[I", .static yX4_put, .initialized RX4, .code yX4_put cX4_put 3 none] ++ wsX10)
def wsX1_finish : List Cond := .code yX1_finish cX1_finish 2 none :: ([.fieldLink RX1 18 "TapeRobotics$Jobs" "waitsAt" "[I", .fieldLink RX1 15 "TapeRobotics$Jobs" "doneCount" "I", .static yX4_put, .initialized RX4, .code yX4_put cX4_put 3 none] ++ wsX10)
def wsX1_fileOf : List Cond := .code yX1_fileOf cX1_fileOf 2 (some .int) :: ([.fieldLink RX1 22 "TapeRobotics$Jobs" "files" "[I", .static yX4_at, .initialized RX4, .code yX4_at cX4_at 2 (some .int)] ++ wsX10)
def wsX1_deadlineOf : List Cond := .code yX1_deadlineOf cX1_deadlineOf 2 (some .int) :: ([.fieldLink RX1 25 "TapeRobotics$Jobs" "deadlines" "[I", .static yX4_at, .initialized RX4, .code yX4_at cX4_at 2 (some .int)] ++ wsX10)
def wsX1_countAt : List Cond := .code yX1_countAt cX1_countAt 4 (some .int) :: ([.fieldLink RX1 9 "TapeRobotics$Jobs" "count" "I", .fieldLink RX1 18 "TapeRobotics$Jobs" "waitsAt" "[I", .static yX4_at, .initialized RX4, .code yX4_at cX4_at 2 (some .int)] ++ wsX10)
def wsX1_earliestDeadlineAt : List Cond := .code yX1_earliestDeadlineAt cX1_earliestDeadlineAt 4 (some .int) :: ([.constant RX1 36 (99999), .fieldLink RX1 9 "TapeRobotics$Jobs" "count" "I", .fieldLink RX1 18 "TapeRobotics$Jobs" "waitsAt" "[I", .fieldLink RX1 25 "TapeRobotics$Jobs" "deadlines" "[I", .methodLink RX1 37 Lib.Math.min.name, .static Lib.Math.min.name, .initialized "java/lang/Math", .code Lib.Math.min.name Lib.Math.min.code 2 (some .int), .static yX4_at, .initialized RX4, .code yX4_at cX4_at 2 (some .int)] ++ wsX10)
def wsX1_collectAt : List Cond := .code yX1_collectAt cX1_collectAt 5 (some .int) :: ([.fieldLink RX1 9 "TapeRobotics$Jobs" "count" "I", .fieldLink RX1 18 "TapeRobotics$Jobs" "waitsAt" "[I", .methodLink RX1 37 Lib.Math.min.name, .static Lib.Math.min.name, .initialized "java/lang/Math", .code Lib.Math.min.name Lib.Math.min.code 2 (some .int), .static yX4_at, .initialized RX4, .code yX4_at cX4_at 2 (some .int), .static yX4_put, .code yX4_put cX4_put 3 none] ++ wsX10)
def wsX2_init : List Cond := .code yX2_init cX2_init 1 none :: ([.methodLink RX2 3 objectInit, .instanceMethod objectInit, .code objectInit ⟨#[0xb1]⟩ 1 none, .fieldLink RX2 9 "TapeRobotics$Orders" "count" "I", .arrayClass .int, .fieldLink RX2 15 "TapeRobotics$Orders" "numbers" "[I", .fieldLink RX2 19 "TapeRobotics$Orders" "legs" "[I", .fieldLink RX2 22 "TapeRobotics$Orders" "rests" "[I", .fieldLink RX2 25 "TapeRobotics$Orders" "best" "[I", .fieldLink RX2 28 "TapeRobotics$Orders" "order" "[I"] ++ wsX20)
def wsX2_measure_r1 : List Cond := [Cond.fieldLink RX2 15 "TapeRobotics$Orders" "numbers" "[I", Cond.fieldLink RX2 9 "TapeRobotics$Orders" "count" "I", Cond.fieldLink RX2 19 "TapeRobotics$Orders" "legs" "[I", Cond.instanceMethod yX1_collectAt, Cond.initialized RX1, Cond.selects RX1 yX1_collectAt yX1_collectAt, Cond.code yX1_collectAt cX1_collectAt 5 (some .int), Cond.fieldLink RX1 9 "TapeRobotics$Jobs" "count" "I", Cond.fieldLink RX1 18 "TapeRobotics$Jobs" "waitsAt" "[I", Cond.methodLink RX1 37 Lib.Math.min.name, Cond.static Lib.Math.min.name, Cond.initialized "java/lang/Math", Cond.code Lib.Math.min.name Lib.Math.min.code 2 (some .int), Cond.static yX4_at, Cond.initialized RX4, Cond.code yX4_at cX4_at 2 (some .int), Cond.static yX4_put, Cond.code yX4_put cX4_put 3 none, Cond.instanceMethod yX1_fileOf, Cond.selects RX1 yX1_fileOf yX1_fileOf, Cond.code yX1_fileOf cX1_fileOf 2 (some .int), Cond.fieldLink RX1 22 "TapeRobotics$Jobs" "files" "[I", Cond.instanceMethod yX0_fileTime, Cond.initialized RX0]
def wsX2_measure_r2 : List Cond := [Cond.selects RX0 yX0_fileTime yX0_fileTime, Cond.code yX0_fileTime cX0_fileTime 5 (some .int), Cond.instanceMethod yX3_beginOf, Cond.initialized RX3, Cond.selects RX3 yX3_beginOf yX3_beginOf, Cond.code yX3_beginOf cX3_beginOf 2 (some .int), Cond.fieldLink RX3 22 "TapeRobotics$Tape" "borders" "[I", Cond.methodLink RX0 51 yX0_wayTime, Cond.instanceMethod yX0_wayTime, Cond.selects RX0 yX0_wayTime yX0_wayTime, Cond.code yX0_wayTime cX0_wayTime 6 (some .int), Cond.methodLink RX0 34 Lib.Math.abs.name, Cond.static Lib.Math.abs.name, Cond.code Lib.Math.abs.name Lib.Math.abs.code 1 (some .int), Cond.fieldLink RX0 28 "TapeRobotics$Drive" "pace" "I", Cond.fieldLink RX0 31 "TapeRobotics$Drive" "step" "I", Cond.instanceMethod yX3_distanceAlong, Cond.selects RX3 yX3_distanceAlong yX3_distanceAlong, Cond.code yX3_distanceAlong cX3_distanceAlong 4 (some .int), Cond.fieldLink RX3 32 "TapeRobotics$Tape" "length" "I", Cond.methodLink RX3 57 Lib.Math.min.name, Cond.methodLink RX3 54 yX3_trackOf, Cond.instanceMethod yX3_trackOf, Cond.selects RX3 yX3_trackOf yX3_trackOf]
def wsX2_measure_r3 : List Cond := [Cond.code yX3_trackOf cX3_trackOf 3 (some .int), Cond.fieldLink RX3 29 "TapeRobotics$Tape" "tracks" "I", Cond.instanceMethod yX3_endOf, Cond.selects RX3 yX3_endOf yX3_endOf, Cond.code yX3_endOf cX3_endOf 2 (some .int)]
def wsX2_measure : List Cond := .code yX2_measure cX2_measure 8 none :: ((wsX2_measure_r1 ++ (wsX2_measure_r2 ++ wsX2_measure_r3)) ++ wsX30 ++ wsX20 ++ wsX00 ++ wsX10)
def wsX2_leg : List Cond := .code yX2_leg cX2_leg 3 (some .int) :: ([.fieldLink RX2 19 "TapeRobotics$Orders" "legs" "[I", .static yX4_at, .initialized RX4, .code yX4_at cX4_at 2 (some .int)] ++ wsX20)
def wsX2_timeOf : List Cond := .code yX2_timeOf cX2_timeOf 7 (some .int) :: ([.static yX4_at, .initialized RX4, .code yX4_at cX4_at 2 (some .int), .methodLink RX2 66 yX2_leg, .instanceMethod yX2_leg, .selects RX2 yX2_leg yX2_leg, .initialized RX2, .code yX2_leg cX2_leg 3 (some .int), .fieldLink RX2 19 "TapeRobotics$Orders" "legs" "[I"] ++ wsX20)
def wsX2_bestJobAt : List Cond := .code yX2_bestJobAt cX2_bestJobAt 2 (some .int) :: ([.fieldLink RX2 15 "TapeRobotics$Orders" "numbers" "[I", .fieldLink RX2 25 "TapeRobotics$Orders" "best" "[I", .static yX4_at, .initialized RX4, .code yX4_at cX4_at 2 (some .int)] ++ wsX20)
def wsX2_restThrough : List Cond := .code yX2_restThrough cX2_restThrough 4 (some .int) :: ([.fieldLink RX2 22 "TapeRobotics$Orders" "rests" "[I", .methodLink RX2 66 yX2_leg, .instanceMethod yX2_leg, .selects RX2 yX2_leg yX2_leg, .initialized RX2, .code yX2_leg cX2_leg 3 (some .int), .fieldLink RX2 19 "TapeRobotics$Orders" "legs" "[I", .static yX4_at, .initialized RX4, .code yX4_at cX4_at 2 (some .int)] ++ wsX20)
def wsX2_bestFollower : List Cond := .code yX2_bestFollower cX2_bestFollower 7 (some .int) :: ([.fieldLink RX2 9 "TapeRobotics$Orders" "count" "I", .methodLink RX2 76 yX2_restThrough, .instanceMethod yX2_restThrough, .selects RX2 yX2_restThrough yX2_restThrough, .initialized RX2, .code yX2_restThrough cX2_restThrough 4 (some .int), .fieldLink RX2 22 "TapeRobotics$Orders" "rests" "[I", .methodLink RX2 66 yX2_leg, .instanceMethod yX2_leg, .selects RX2 yX2_leg yX2_leg, .code yX2_leg cX2_leg 3 (some .int), .fieldLink RX2 19 "TapeRobotics$Orders" "legs" "[I", .static yX4_at, .initialized RX4, .code yX4_at cX4_at 2 (some .int)] ++ wsX20)
def wsX2_restBehind : List Cond := .code yX2_restBehind cX2_restBehind 4 (some .int) :: ([.methodLink RX2 73 yX2_bestFollower, .instanceMethod yX2_bestFollower, .selects RX2 yX2_bestFollower yX2_bestFollower, .initialized RX2, .code yX2_bestFollower cX2_bestFollower 7 (some .int), .fieldLink RX2 9 "TapeRobotics$Orders" "count" "I", .methodLink RX2 76 yX2_restThrough, .instanceMethod yX2_restThrough, .selects RX2 yX2_restThrough yX2_restThrough, .code yX2_restThrough cX2_restThrough 4 (some .int), .fieldLink RX2 22 "TapeRobotics$Orders" "rests" "[I", .methodLink RX2 66 yX2_leg, .instanceMethod yX2_leg, .selects RX2 yX2_leg yX2_leg, .code yX2_leg cX2_leg 3 (some .int), .fieldLink RX2 19 "TapeRobotics$Orders" "legs" "[I", .static yX4_at, .initialized RX4, .code yX4_at cX4_at 2 (some .int)] ++ wsX20)
def wsX2_findBest_r1 : List Cond := [Cond.fieldLink RX2 9 "TapeRobotics$Orders" "count" "I", Cond.fieldLink RX2 22 "TapeRobotics$Orders" "rests" "[I", Cond.fieldLink RX2 25 "TapeRobotics$Orders" "best" "[I", Cond.methodLink RX2 70 yX2_restBehind, Cond.instanceMethod yX2_restBehind, Cond.selects RX2 yX2_restBehind yX2_restBehind, Cond.initialized RX2, Cond.code yX2_restBehind cX2_restBehind 4 (some .int), Cond.methodLink RX2 73 yX2_bestFollower, Cond.instanceMethod yX2_bestFollower, Cond.selects RX2 yX2_bestFollower yX2_bestFollower, Cond.code yX2_bestFollower cX2_bestFollower 7 (some .int), Cond.methodLink RX2 76 yX2_restThrough, Cond.instanceMethod yX2_restThrough, Cond.selects RX2 yX2_restThrough yX2_restThrough, Cond.code yX2_restThrough cX2_restThrough 4 (some .int), Cond.methodLink RX2 66 yX2_leg, Cond.instanceMethod yX2_leg, Cond.selects RX2 yX2_leg yX2_leg, Cond.code yX2_leg cX2_leg 3 (some .int), Cond.fieldLink RX2 19 "TapeRobotics$Orders" "legs" "[I", Cond.static yX4_at, Cond.initialized RX4, Cond.code yX4_at cX4_at 2 (some .int)]
def wsX2_findBest_r2 : List Cond := [Cond.static yX4_put, Cond.code yX4_put cX4_put 3 none]
def wsX2_findBest : List Cond := .code yX2_findBest cX2_findBest 4 none :: ((wsX2_findBest_r1 ++ wsX2_findBest_r2) ++ wsX20)
def wsX2_swap : List Cond := .code yX2_swap cX2_swap 4 none :: ([.fieldLink RX2 28 "TapeRobotics$Orders" "order" "[I", .static yX4_at, .initialized RX4, .code yX4_at cX4_at 2 (some .int), .static yX4_put, .code yX4_put cX4_put 3 none] ++ wsX20)
def wsX2_advanceOrder : List Cond := .code yX2_advanceOrder cX2_advanceOrder 5 (some .boolean) :: ([.fieldLink RX2 9 "TapeRobotics$Orders" "count" "I", .fieldLink RX2 28 "TapeRobotics$Orders" "order" "[I", .static yX4_at, .initialized RX4, .code yX4_at cX4_at 2 (some .int), .methodLink RX2 92 yX2_swap, .instanceMethod yX2_swap, .selects RX2 yX2_swap yX2_swap, .initialized RX2, .code yX2_swap cX2_swap 4 none, .static yX4_put, .code yX4_put cX4_put 3 none] ++ wsX20)
def wsX2_timeByTrying_r1 : List Cond := [Cond.fieldLink RX2 9 "TapeRobotics$Orders" "count" "I", Cond.fieldLink RX2 28 "TapeRobotics$Orders" "order" "[I", Cond.methodLink RX2 87 Lib.Math.min.name, Cond.static Lib.Math.min.name, Cond.initialized "java/lang/Math", Cond.code Lib.Math.min.name Lib.Math.min.code 2 (some .int), Cond.static yX4_put, Cond.initialized RX4, Cond.code yX4_put cX4_put 3 none, Cond.methodLink RX2 80 yX2_timeOf, Cond.instanceMethod yX2_timeOf, Cond.selects RX2 yX2_timeOf yX2_timeOf, Cond.initialized RX2, Cond.code yX2_timeOf cX2_timeOf 7 (some .int), Cond.static yX4_at, Cond.code yX4_at cX4_at 2 (some .int), Cond.methodLink RX2 66 yX2_leg, Cond.instanceMethod yX2_leg, Cond.selects RX2 yX2_leg yX2_leg, Cond.code yX2_leg cX2_leg 3 (some .int), Cond.fieldLink RX2 19 "TapeRobotics$Orders" "legs" "[I", Cond.methodLink RX2 83 yX2_advanceOrder, Cond.instanceMethod yX2_advanceOrder, Cond.selects RX2 yX2_advanceOrder yX2_advanceOrder]
def wsX2_timeByTrying_r2 : List Cond := [Cond.code yX2_advanceOrder cX2_advanceOrder 5 (some .boolean), Cond.methodLink RX2 92 yX2_swap, Cond.instanceMethod yX2_swap, Cond.selects RX2 yX2_swap yX2_swap, Cond.code yX2_swap cX2_swap 4 none]
def wsX2_timeByTrying : List Cond := .code yX2_timeByTrying cX2_timeByTrying 3 (some .int) :: ((wsX2_timeByTrying_r1 ++ wsX2_timeByTrying_r2) ++ wsX20)
def wsX2_insert : List Cond := .code yX2_insert cX2_insert 6 none :: ([.fieldLink RX2 28 "TapeRobotics$Orders" "order" "[I", .static yX4_put, .initialized RX4, .code yX4_put cX4_put 3 none, .methodLink RX2 80 yX2_timeOf, .instanceMethod yX2_timeOf, .selects RX2 yX2_timeOf yX2_timeOf, .initialized RX2, .code yX2_timeOf cX2_timeOf 7 (some .int), .static yX4_at, .code yX4_at cX4_at 2 (some .int), .methodLink RX2 66 yX2_leg, .instanceMethod yX2_leg, .selects RX2 yX2_leg yX2_leg, .code yX2_leg cX2_leg 3 (some .int), .fieldLink RX2 19 "TapeRobotics$Orders" "legs" "[I", .methodLink RX2 92 yX2_swap, .instanceMethod yX2_swap, .selects RX2 yX2_swap yX2_swap, .code yX2_swap cX2_swap 4 none] ++ wsX20)
def wsX2_timeByInsertion_r1 : List Cond := [Cond.fieldLink RX2 9 "TapeRobotics$Orders" "count" "I", Cond.fieldLink RX2 28 "TapeRobotics$Orders" "order" "[I", Cond.methodLink RX2 96 yX2_insert, Cond.instanceMethod yX2_insert, Cond.selects RX2 yX2_insert yX2_insert, Cond.initialized RX2, Cond.code yX2_insert cX2_insert 6 none, Cond.static yX4_put, Cond.initialized RX4, Cond.code yX4_put cX4_put 3 none, Cond.methodLink RX2 80 yX2_timeOf, Cond.instanceMethod yX2_timeOf, Cond.selects RX2 yX2_timeOf yX2_timeOf, Cond.code yX2_timeOf cX2_timeOf 7 (some .int), Cond.static yX4_at, Cond.code yX4_at cX4_at 2 (some .int), Cond.methodLink RX2 66 yX2_leg, Cond.instanceMethod yX2_leg, Cond.selects RX2 yX2_leg yX2_leg, Cond.code yX2_leg cX2_leg 3 (some .int), Cond.fieldLink RX2 19 "TapeRobotics$Orders" "legs" "[I", Cond.methodLink RX2 92 yX2_swap, Cond.instanceMethod yX2_swap, Cond.selects RX2 yX2_swap yX2_swap]
def wsX2_timeByInsertion_r2 : List Cond := [Cond.code yX2_swap cX2_swap 4 none]
def wsX2_timeByInsertion : List Cond := .code yX2_timeByInsertion cX2_timeByInsertion 2 (some .int) :: ((wsX2_timeByInsertion_r1 ++ wsX2_timeByInsertion_r2) ++ wsX20)
def wsX3_init : List Cond := .code yX3_init cX3_init 5 none :: ([.methodLink RX3 3 objectInit, .instanceMethod objectInit, .code objectInit ⟨#[0xb1]⟩ 1 none, .fieldLink RX3 9 "TapeRobotics$Tape" "driveNumber" "I", .fieldLink RX3 15 "TapeRobotics$Tape" "hasLabel" "Z", .fieldLink RX3 19 "TapeRobotics$Tape" "fileCount" "I", .arrayClass .int, .fieldLink RX3 22 "TapeRobotics$Tape" "borders" "[I", .fieldLink RX3 26 "TapeRobotics$Tape" "number" "I", .fieldLink RX3 29 "TapeRobotics$Tape" "tracks" "I", .fieldLink RX3 32 "TapeRobotics$Tape" "length" "I", .fieldLink RX3 35 "TapeRobotics$Tape" "slot" "I"] ++ wsX30)
def wsX3_isInDrive : List Cond := .code yX3_isInDrive cX3_isInDrive 1 (some .boolean) :: ([.fieldLink RX3 9 "TapeRobotics$Tape" "driveNumber" "I"] ++ wsX30)
def wsX3_places : List Cond := .code yX3_places cX3_places 1 (some .int) :: ([.fieldLink RX3 29 "TapeRobotics$Tape" "tracks" "I", .fieldLink RX3 32 "TapeRobotics$Tape" "length" "I"] ++ wsX30)
def wsX3_hasRoomFor : List Cond := .code yX3_hasRoomFor cX3_hasRoomFor 2 (some .boolean) :: ([.fieldLink RX3 19 "TapeRobotics$Tape" "fileCount" "I", .methodLink RX3 42 yX3_beginOf, .instanceMethod yX3_beginOf, .selects RX3 yX3_beginOf yX3_beginOf, .initialized RX3, .code yX3_beginOf cX3_beginOf 2 (some .int), .fieldLink RX3 22 "TapeRobotics$Tape" "borders" "[I", .static yX4_at, .initialized RX4, .code yX4_at cX4_at 2 (some .int), .methodLink RX3 46 yX3_places, .instanceMethod yX3_places, .selects RX3 yX3_places yX3_places, .code yX3_places cX3_places 1 (some .int), .fieldLink RX3 29 "TapeRobotics$Tape" "tracks" "I", .fieldLink RX3 32 "TapeRobotics$Tape" "length" "I"] ++ wsX30)
def wsX3_append : List Cond := .code yX3_append cX3_append 2 (some .int) :: ([.fieldLink RX3 22 "TapeRobotics$Tape" "borders" "[I", .fieldLink RX3 19 "TapeRobotics$Tape" "fileCount" "I", .methodLink RX3 42 yX3_beginOf, .instanceMethod yX3_beginOf, .selects RX3 yX3_beginOf yX3_beginOf, .initialized RX3, .code yX3_beginOf cX3_beginOf 2 (some .int), .static yX4_at, .initialized RX4, .code yX4_at cX4_at 2 (some .int), .static yX4_put, .code yX4_put cX4_put 3 none] ++ wsX30)
def wsX4_init_r1 : List Cond := [Cond.methodLink RX4 1 objectInit, Cond.instanceMethod objectInit, Cond.code objectInit ⟨#[0xb1]⟩ 1 none, Cond.classLink RX4 9 RX3, Cond.fieldLink RX4 11 "TapeRobotics" "tapes" "[LTapeRobotics$Tape;", Cond.fieldLink RX4 15 "TapeRobotics" "tapeCount" "I", Cond.classLink RX4 19 RX0, Cond.fieldLink RX4 21 "TapeRobotics" "drives" "[LTapeRobotics$Drive;", Cond.fieldLink RX4 25 "TapeRobotics" "driveCount" "I", Cond.classLink RX4 28 RX1, Cond.instantiable RX1 5, Cond.initialized RX1, Cond.fieldLink RX4 31 "TapeRobotics" "jobs" "LTapeRobotics$Jobs;", Cond.classLink RX4 35 RX2, Cond.instantiable RX2 6, Cond.initialized RX2, Cond.fieldLink RX4 38 "TapeRobotics" "orders" "LTapeRobotics$Orders;", Cond.instanceMethod yX1_init, Cond.code yX1_init cX1_init 1 none, Cond.methodLink RX1 3 objectInit, Cond.fieldLink RX1 9 "TapeRobotics$Jobs" "count" "I", Cond.fieldLink RX1 15 "TapeRobotics$Jobs" "doneCount" "I", Cond.arrayClass .int, Cond.fieldLink RX1 18 "TapeRobotics$Jobs" "waitsAt" "[I"]
def wsX4_init_r2 : List Cond := [Cond.fieldLink RX1 22 "TapeRobotics$Jobs" "files" "[I", Cond.fieldLink RX1 25 "TapeRobotics$Jobs" "deadlines" "[I", Cond.instanceMethod yX2_init, Cond.code yX2_init cX2_init 1 none, Cond.methodLink RX2 3 objectInit, Cond.fieldLink RX2 9 "TapeRobotics$Orders" "count" "I", Cond.fieldLink RX2 15 "TapeRobotics$Orders" "numbers" "[I", Cond.fieldLink RX2 19 "TapeRobotics$Orders" "legs" "[I", Cond.fieldLink RX2 22 "TapeRobotics$Orders" "rests" "[I", Cond.fieldLink RX2 25 "TapeRobotics$Orders" "best" "[I", Cond.fieldLink RX2 28 "TapeRobotics$Orders" "order" "[I"]
def wsX4_init : List Cond := .code yX4_init cX4_init 1 none :: ((wsX4_init_r1 ++ wsX4_init_r2) ++ wsX40 ++ wsX10 ++ wsX20)
def wsX4_isFree : List Cond := .code yX4_isFree cX4_isFree 6 (some .boolean) :: ([.fieldLink RX4 11 "TapeRobotics" "tapes" "[LTapeRobotics$Tape;"] ++ wsX40 ++ wsX30)
def wsX4_lowestFreeSlot : List Cond := .code yX4_lowestFreeSlot cX4_lowestFreeSlot 2 (some .int) :: ([.methodLink RX4 76 yX4_isFree, .instanceMethod yX4_isFree, .selects RX4 yX4_isFree yX4_isFree, .initialized RX4, .code yX4_isFree cX4_isFree 6 (some .boolean), .fieldLink RX4 11 "TapeRobotics" "tapes" "[LTapeRobotics$Tape;"] ++ wsX40 ++ wsX30)
def wsX4_tape_r1 : List Cond := [Cond.classLink RX4 42 "java/lang/IllegalArgumentException", Cond.initialized "java/lang/IllegalArgumentException", Cond.classLink RX4 51 "java/lang/IllegalStateException", Cond.initialized "java/lang/IllegalStateException", Cond.fieldLink RX4 15 "TapeRobotics" "tapeCount" "I", Cond.fieldLink RX4 11 "TapeRobotics" "tapes" "[LTapeRobotics$Tape;", Cond.classLink RX4 9 RX3, Cond.instantiable RX3 8, Cond.initialized RX3, Cond.methodLink RX4 56 yX4_lowestFreeSlot, Cond.instanceMethod yX4_lowestFreeSlot, Cond.selects RX4 yX4_lowestFreeSlot yX4_lowestFreeSlot, Cond.initialized RX4, Cond.code yX4_lowestFreeSlot cX4_lowestFreeSlot 2 (some .int), Cond.methodLink RX4 76 yX4_isFree, Cond.instanceMethod yX4_isFree, Cond.selects RX4 yX4_isFree yX4_isFree, Cond.code yX4_isFree cX4_isFree 6 (some .boolean), Cond.instanceMethod yX3_init, Cond.code yX3_init cX3_init 5 none, Cond.methodLink RX3 3 objectInit, Cond.instanceMethod objectInit, Cond.code objectInit ⟨#[0xb1]⟩ 1 none, Cond.fieldLink RX3 9 "TapeRobotics$Tape" "driveNumber" "I"]
def wsX4_tape_r2 : List Cond := [Cond.fieldLink RX3 15 "TapeRobotics$Tape" "hasLabel" "Z", Cond.fieldLink RX3 19 "TapeRobotics$Tape" "fileCount" "I", Cond.arrayClass .int, Cond.fieldLink RX3 22 "TapeRobotics$Tape" "borders" "[I", Cond.fieldLink RX3 26 "TapeRobotics$Tape" "number" "I", Cond.fieldLink RX3 29 "TapeRobotics$Tape" "tracks" "I", Cond.fieldLink RX3 32 "TapeRobotics$Tape" "length" "I", Cond.fieldLink RX3 35 "TapeRobotics$Tape" "slot" "I"]
def wsX4_tape : List Cond := .code yX4_tape cX4_tape 3 (some .int) :: ((wsX4_tape_r1 ++ wsX4_tape_r2) ++ wsX40 ++ wsX30 ++ (vx_atS RX4 46 "java/lang/IllegalArgumentException" ["java/lang/RuntimeException", "java/lang/Exception"]).filter goodWord ++ (vx_atS RX4 55 "java/lang/IllegalStateException" ["java/lang/RuntimeException", "java/lang/Exception"]).filter goodWord)
def wsX4_tapeNumbered : List Cond := .code yX4_tapeNumbered cX4_tapeNumbered 3 (some (.object "TapeRobotics$Tape")) :: ([.classLink RX4 67 "java/lang/IndexOutOfBoundsException", .initialized "java/lang/IndexOutOfBoundsException", .fieldLink RX4 11 "TapeRobotics" "tapes" "[LTapeRobotics$Tape;"] ++ wsX40 ++ (vx_atS RX4 71 "java/lang/IndexOutOfBoundsException" ["java/lang/RuntimeException", "java/lang/Exception"]).filter goodWord)
def wsX4_carry : List Cond := .code yX4_carry cX4_carry 5 (some .int) :: ([.classLink RX4 67 "java/lang/IndexOutOfBoundsException", .initialized "java/lang/IndexOutOfBoundsException", .classLink RX4 51 "java/lang/IllegalStateException", .initialized "java/lang/IllegalStateException", .methodLink RX4 63 yX4_tapeNumbered, .instanceMethod yX4_tapeNumbered, .selects RX4 yX4_tapeNumbered yX4_tapeNumbered, .initialized RX4, .code yX4_tapeNumbered cX4_tapeNumbered 3 (some (.object "TapeRobotics$Tape")), .fieldLink RX4 11 "TapeRobotics" "tapes" "[LTapeRobotics$Tape;", .instanceMethod yX3_isInDrive, .initialized RX3, .selects RX3 yX3_isInDrive yX3_isInDrive, .code yX3_isInDrive cX3_isInDrive 1 (some .boolean), .fieldLink RX3 9 "TapeRobotics$Tape" "driveNumber" "I", .methodLink RX4 76 yX4_isFree, .instanceMethod yX4_isFree, .selects RX4 yX4_isFree yX4_isFree, .code yX4_isFree cX4_isFree 6 (some .boolean)] ++ wsX30 ++ wsX40 ++ (vx_atS RX4 71 "java/lang/IndexOutOfBoundsException" ["java/lang/RuntimeException", "java/lang/Exception"]).filter goodWord ++ (vx_atS RX4 55 "java/lang/IllegalStateException" ["java/lang/RuntimeException", "java/lang/Exception"]).filter goodWord)
def wsX4_placeOf : List Cond := .code yX4_placeOf cX4_placeOf 3 (some .int) :: ([.methodLink RX4 63 yX4_tapeNumbered, .instanceMethod yX4_tapeNumbered, .selects RX4 yX4_tapeNumbered yX4_tapeNumbered, .initialized RX4, .code yX4_tapeNumbered cX4_tapeNumbered 3 (some (.object "TapeRobotics$Tape")), .classLink RX4 67 "java/lang/IndexOutOfBoundsException", .initialized "java/lang/IndexOutOfBoundsException", .fieldLink RX4 11 "TapeRobotics" "tapes" "[LTapeRobotics$Tape;", .instanceMethod yX3_isInDrive, .initialized RX3, .selects RX3 yX3_isInDrive yX3_isInDrive, .code yX3_isInDrive cX3_isInDrive 1 (some .boolean), .fieldLink RX3 9 "TapeRobotics$Tape" "driveNumber" "I"] ++ wsX30 ++ wsX40 ++ (vx_atS RX4 71 "java/lang/IndexOutOfBoundsException" ["java/lang/RuntimeException", "java/lang/Exception"]).filter goodWord)
def wsX4_files : List Cond := .code yX4_files cX4_files 2 (some .int) :: ([.methodLink RX4 63 yX4_tapeNumbered, .instanceMethod yX4_tapeNumbered, .selects RX4 yX4_tapeNumbered yX4_tapeNumbered, .initialized RX4, .code yX4_tapeNumbered cX4_tapeNumbered 3 (some (.object "TapeRobotics$Tape")), .classLink RX4 67 "java/lang/IndexOutOfBoundsException", .initialized "java/lang/IndexOutOfBoundsException", .fieldLink RX4 11 "TapeRobotics" "tapes" "[LTapeRobotics$Tape;"] ++ wsX30 ++ wsX40 ++ (vx_atS RX4 71 "java/lang/IndexOutOfBoundsException" ["java/lang/RuntimeException", "java/lang/Exception"]).filter goodWord)
def wsX4_refuseMissingFile : List Cond := .code yX4_refuseMissingFile cX4_refuseMissingFile 2 none :: ([.classLink RX4 67 "java/lang/IndexOutOfBoundsException", .initialized "java/lang/IndexOutOfBoundsException"] ++ wsX30 ++ (vx_atS RX4 71 "java/lang/IndexOutOfBoundsException" ["java/lang/RuntimeException", "java/lang/Exception"]).filter goodWord)
def wsX4_start : List Cond := .code yX4_start cX4_start 4 (some .int) :: ([.methodLink RX4 63 yX4_tapeNumbered, .instanceMethod yX4_tapeNumbered, .selects RX4 yX4_tapeNumbered yX4_tapeNumbered, .initialized RX4, .code yX4_tapeNumbered cX4_tapeNumbered 3 (some (.object "TapeRobotics$Tape")), .classLink RX4 67 "java/lang/IndexOutOfBoundsException", .initialized "java/lang/IndexOutOfBoundsException", .fieldLink RX4 11 "TapeRobotics" "tapes" "[LTapeRobotics$Tape;", .methodLink RX4 91 yX4_refuseMissingFile, .static yX4_refuseMissingFile, .code yX4_refuseMissingFile cX4_refuseMissingFile 2 none, .instanceMethod yX3_beginOf, .initialized RX3, .selects RX3 yX3_beginOf yX3_beginOf, .code yX3_beginOf cX3_beginOf 2 (some .int), .fieldLink RX3 22 "TapeRobotics$Tape" "borders" "[I", .static yX4_at, .code yX4_at cX4_at 2 (some .int)] ++ wsX40 ++ wsX30 ++ (vx_atS RX4 71 "java/lang/IndexOutOfBoundsException" ["java/lang/RuntimeException", "java/lang/Exception"]).filter goodWord)
def wsX4_along_r1 : List Cond := [Cond.classLink RX4 67 "java/lang/IndexOutOfBoundsException", Cond.initialized "java/lang/IndexOutOfBoundsException", Cond.methodLink RX4 63 yX4_tapeNumbered, Cond.instanceMethod yX4_tapeNumbered, Cond.selects RX4 yX4_tapeNumbered yX4_tapeNumbered, Cond.initialized RX4, Cond.code yX4_tapeNumbered cX4_tapeNumbered 3 (some (.object "TapeRobotics$Tape")), Cond.fieldLink RX4 11 "TapeRobotics" "tapes" "[LTapeRobotics$Tape;", Cond.instanceMethod yX3_places, Cond.initialized RX3, Cond.selects RX3 yX3_places yX3_places, Cond.code yX3_places cX3_places 1 (some .int), Cond.fieldLink RX3 29 "TapeRobotics$Tape" "tracks" "I", Cond.fieldLink RX3 32 "TapeRobotics$Tape" "length" "I", Cond.instanceMethod yX3_distanceAlong, Cond.selects RX3 yX3_distanceAlong yX3_distanceAlong, Cond.code yX3_distanceAlong cX3_distanceAlong 4 (some .int), Cond.methodLink RX3 57 Lib.Math.min.name, Cond.static Lib.Math.min.name, Cond.initialized "java/lang/Math", Cond.code Lib.Math.min.name Lib.Math.min.code 2 (some .int), Cond.methodLink RX3 54 yX3_trackOf, Cond.instanceMethod yX3_trackOf, Cond.selects RX3 yX3_trackOf yX3_trackOf]
def wsX4_along_r2 : List Cond := [Cond.code yX3_trackOf cX3_trackOf 3 (some .int)]
def wsX4_along : List Cond := .code yX4_along cX4_along 4 (some .int) :: ((wsX4_along_r1 ++ wsX4_along_r2) ++ wsX40 ++ wsX30 ++ (vx_atS RX4 71 "java/lang/IndexOutOfBoundsException" ["java/lang/RuntimeException", "java/lang/Exception"]).filter goodWord)
def wsX4_drive : List Cond := .code yX4_drive cX4_drive 2 (some .int) :: ([.classLink RX4 42 "java/lang/IllegalArgumentException", .initialized "java/lang/IllegalArgumentException", .classLink RX4 51 "java/lang/IllegalStateException", .initialized "java/lang/IllegalStateException", .fieldLink RX4 25 "TapeRobotics" "driveCount" "I", .fieldLink RX4 21 "TapeRobotics" "drives" "[LTapeRobotics$Drive;", .classLink RX4 19 RX0, .instantiable RX0 7, .initialized RX0, .instanceMethod yX0_init, .code yX0_init cX0_init 4 none, .methodLink RX0 3 objectInit, .instanceMethod objectInit, .code objectInit ⟨#[0xb1]⟩ 1 none, .fieldLink RX0 9 "TapeRobotics$Drive" "mounted" "LTapeRobotics$Tape;", .fieldLink RX0 15 "TapeRobotics$Drive" "place" "I", .fieldLink RX0 19 "TapeRobotics$Drive" "time" "I", .fieldLink RX0 22 "TapeRobotics$Drive" "filesSinceCleaning" "I", .fieldLink RX0 25 "TapeRobotics$Drive" "number" "I", .fieldLink RX0 28 "TapeRobotics$Drive" "pace" "I", .fieldLink RX0 31 "TapeRobotics$Drive" "step" "I"] ++ wsX40 ++ wsX00 ++ (vx_atS RX4 46 "java/lang/IllegalArgumentException" ["java/lang/RuntimeException", "java/lang/Exception"]).filter goodWord ++ (vx_atS RX4 55 "java/lang/IllegalStateException" ["java/lang/RuntimeException", "java/lang/Exception"]).filter goodWord)
def wsX4_driveNumbered : List Cond := .code yX4_driveNumbered cX4_driveNumbered 3 (some (.object "TapeRobotics$Drive")) :: ([.classLink RX4 67 "java/lang/IndexOutOfBoundsException", .initialized "java/lang/IndexOutOfBoundsException", .fieldLink RX4 21 "TapeRobotics" "drives" "[LTapeRobotics$Drive;"] ++ wsX40 ++ (vx_atS RX4 71 "java/lang/IndexOutOfBoundsException" ["java/lang/RuntimeException", "java/lang/Exception"]).filter goodWord)
def wsX4_mount_r1 : List Cond := [Cond.classLink RX4 51 "java/lang/IllegalStateException", Cond.initialized "java/lang/IllegalStateException", Cond.methodLink RX4 114 yX4_driveNumbered, Cond.instanceMethod yX4_driveNumbered, Cond.selects RX4 yX4_driveNumbered yX4_driveNumbered, Cond.initialized RX4, Cond.code yX4_driveNumbered cX4_driveNumbered 3 (some (.object "TapeRobotics$Drive")), Cond.classLink RX4 67 "java/lang/IndexOutOfBoundsException", Cond.initialized "java/lang/IndexOutOfBoundsException", Cond.fieldLink RX4 21 "TapeRobotics" "drives" "[LTapeRobotics$Drive;", Cond.methodLink RX4 63 yX4_tapeNumbered, Cond.instanceMethod yX4_tapeNumbered, Cond.selects RX4 yX4_tapeNumbered yX4_tapeNumbered, Cond.code yX4_tapeNumbered cX4_tapeNumbered 3 (some (.object "TapeRobotics$Tape")), Cond.fieldLink RX4 11 "TapeRobotics" "tapes" "[LTapeRobotics$Tape;", Cond.instanceMethod yX3_isInDrive, Cond.initialized RX3, Cond.selects RX3 yX3_isInDrive yX3_isInDrive, Cond.code yX3_isInDrive cX3_isInDrive 1 (some .boolean), Cond.fieldLink RX3 9 "TapeRobotics$Tape" "driveNumber" "I", Cond.instanceMethod yX0_robotTime, Cond.initialized RX0, Cond.selects RX0 yX0_robotTime yX0_robotTime, Cond.code yX0_robotTime cX0_robotTime 3 (some .int)]
def wsX4_mount_r2 : List Cond := [Cond.fieldLink RX0 25 "TapeRobotics$Drive" "number" "I", Cond.methodLink RX0 34 Lib.Math.abs.name, Cond.static Lib.Math.abs.name, Cond.initialized "java/lang/Math", Cond.code Lib.Math.abs.name Lib.Math.abs.code 1 (some .int), Cond.instanceMethod yX0_spend, Cond.selects RX0 yX0_spend yX0_spend, Cond.code yX0_spend cX0_spend 2 (some .int), Cond.fieldLink RX0 19 "TapeRobotics$Drive" "time" "I"]
def wsX4_mount : List Cond := .code yX4_mount cX4_mount 5 (some .int) :: ((wsX4_mount_r1 ++ wsX4_mount_r2) ++ wsX00 ++ wsX30 ++ wsX40 ++ (vx_atS RX4 55 "java/lang/IllegalStateException" ["java/lang/RuntimeException", "java/lang/Exception"]).filter goodWord ++ (vx_atS RX4 71 "java/lang/IndexOutOfBoundsException" ["java/lang/RuntimeException", "java/lang/Exception"]).filter goodWord)
def wsX4_mountedIn : List Cond := .code yX4_mountedIn cX4_mountedIn 2 (some (.object "TapeRobotics$Tape")) :: ([.classLink RX4 51 "java/lang/IllegalStateException", .initialized "java/lang/IllegalStateException"] ++ wsX00 ++ (vx_atS RX4 55 "java/lang/IllegalStateException" ["java/lang/RuntimeException", "java/lang/Exception"]).filter goodWord)
def wsX4_unmount_r1 : List Cond := [Cond.methodLink RX4 114 yX4_driveNumbered, Cond.instanceMethod yX4_driveNumbered, Cond.selects RX4 yX4_driveNumbered yX4_driveNumbered, Cond.initialized RX4, Cond.code yX4_driveNumbered cX4_driveNumbered 3 (some (.object "TapeRobotics$Drive")), Cond.classLink RX4 67 "java/lang/IndexOutOfBoundsException", Cond.initialized "java/lang/IndexOutOfBoundsException", Cond.fieldLink RX4 21 "TapeRobotics" "drives" "[LTapeRobotics$Drive;", Cond.methodLink RX4 140 yX4_mountedIn, Cond.static yX4_mountedIn, Cond.code yX4_mountedIn cX4_mountedIn 2 (some (.object "TapeRobotics$Tape")), Cond.classLink RX4 51 "java/lang/IllegalStateException", Cond.initialized "java/lang/IllegalStateException", Cond.instanceMethod yX0_wayTime, Cond.initialized RX0, Cond.selects RX0 yX0_wayTime yX0_wayTime, Cond.code yX0_wayTime cX0_wayTime 6 (some .int), Cond.methodLink RX0 34 Lib.Math.abs.name, Cond.static Lib.Math.abs.name, Cond.initialized "java/lang/Math", Cond.code Lib.Math.abs.name Lib.Math.abs.code 1 (some .int), Cond.fieldLink RX0 28 "TapeRobotics$Drive" "pace" "I", Cond.fieldLink RX0 31 "TapeRobotics$Drive" "step" "I", Cond.instanceMethod yX3_distanceAlong]
def wsX4_unmount_r2 : List Cond := [Cond.initialized RX3, Cond.selects RX3 yX3_distanceAlong yX3_distanceAlong, Cond.code yX3_distanceAlong cX3_distanceAlong 4 (some .int), Cond.fieldLink RX3 32 "TapeRobotics$Tape" "length" "I", Cond.methodLink RX3 57 Lib.Math.min.name, Cond.static Lib.Math.min.name, Cond.code Lib.Math.min.name Lib.Math.min.code 2 (some .int), Cond.methodLink RX3 54 yX3_trackOf, Cond.instanceMethod yX3_trackOf, Cond.selects RX3 yX3_trackOf yX3_trackOf, Cond.code yX3_trackOf cX3_trackOf 3 (some .int), Cond.fieldLink RX3 29 "TapeRobotics$Tape" "tracks" "I", Cond.instanceMethod yX0_robotTime, Cond.selects RX0 yX0_robotTime yX0_robotTime, Cond.code yX0_robotTime cX0_robotTime 3 (some .int), Cond.fieldLink RX0 25 "TapeRobotics$Drive" "number" "I", Cond.instanceMethod yX0_spend, Cond.selects RX0 yX0_spend yX0_spend, Cond.code yX0_spend cX0_spend 2 (some .int), Cond.fieldLink RX0 19 "TapeRobotics$Drive" "time" "I"]
def wsX4_unmount : List Cond := .code yX4_unmount cX4_unmount 5 (some .int) :: ((wsX4_unmount_r1 ++ wsX4_unmount_r2) ++ wsX00 ++ wsX30 ++ wsX40 ++ (vx_atS RX4 71 "java/lang/IndexOutOfBoundsException" ["java/lang/RuntimeException", "java/lang/Exception"]).filter goodWord ++ (vx_atS RX4 55 "java/lang/IllegalStateException" ["java/lang/RuntimeException", "java/lang/Exception"]).filter goodWord)
def wsX4_refuseUnclean : List Cond := .code yX4_refuseUnclean cX4_refuseUnclean 1 none :: ([.classLink RX4 51 "java/lang/IllegalStateException", .initialized "java/lang/IllegalStateException", .instanceMethod yX0_wantsCleaning, .initialized RX0, .selects RX0 yX0_wantsCleaning yX0_wantsCleaning, .code yX0_wantsCleaning cX0_wantsCleaning 1 (some .boolean), .fieldLink RX0 22 "TapeRobotics$Drive" "filesSinceCleaning" "I"] ++ wsX00 ++ (vx_atS RX4 55 "java/lang/IllegalStateException" ["java/lang/RuntimeException", "java/lang/Exception"]).filter goodWord)
def wsX4_write_r1 : List Cond := [Cond.classLink RX4 42 "java/lang/IllegalArgumentException", Cond.initialized "java/lang/IllegalArgumentException", Cond.classLink RX4 51 "java/lang/IllegalStateException", Cond.initialized "java/lang/IllegalStateException", Cond.methodLink RX4 114 yX4_driveNumbered, Cond.instanceMethod yX4_driveNumbered, Cond.selects RX4 yX4_driveNumbered yX4_driveNumbered, Cond.initialized RX4, Cond.code yX4_driveNumbered cX4_driveNumbered 3 (some (.object "TapeRobotics$Drive")), Cond.classLink RX4 67 "java/lang/IndexOutOfBoundsException", Cond.initialized "java/lang/IndexOutOfBoundsException", Cond.fieldLink RX4 21 "TapeRobotics" "drives" "[LTapeRobotics$Drive;", Cond.methodLink RX4 140 yX4_mountedIn, Cond.static yX4_mountedIn, Cond.code yX4_mountedIn cX4_mountedIn 2 (some (.object "TapeRobotics$Tape")), Cond.methodLink RX4 150 yX4_refuseUnclean, Cond.static yX4_refuseUnclean, Cond.code yX4_refuseUnclean cX4_refuseUnclean 1 none, Cond.instanceMethod yX0_wantsCleaning, Cond.initialized RX0, Cond.selects RX0 yX0_wantsCleaning yX0_wantsCleaning, Cond.code yX0_wantsCleaning cX0_wantsCleaning 1 (some .boolean), Cond.fieldLink RX0 22 "TapeRobotics$Drive" "filesSinceCleaning" "I", Cond.instanceMethod yX3_hasRoomFor]
def wsX4_write_r2 : List Cond := [Cond.initialized RX3, Cond.selects RX3 yX3_hasRoomFor yX3_hasRoomFor, Cond.code yX3_hasRoomFor cX3_hasRoomFor 2 (some .boolean), Cond.fieldLink RX3 19 "TapeRobotics$Tape" "fileCount" "I", Cond.methodLink RX3 42 yX3_beginOf, Cond.instanceMethod yX3_beginOf, Cond.selects RX3 yX3_beginOf yX3_beginOf, Cond.code yX3_beginOf cX3_beginOf 2 (some .int), Cond.fieldLink RX3 22 "TapeRobotics$Tape" "borders" "[I", Cond.static yX4_at, Cond.code yX4_at cX4_at 2 (some .int), Cond.methodLink RX3 46 yX3_places, Cond.instanceMethod yX3_places, Cond.selects RX3 yX3_places yX3_places, Cond.code yX3_places cX3_places 1 (some .int), Cond.fieldLink RX3 29 "TapeRobotics$Tape" "tracks" "I", Cond.fieldLink RX3 32 "TapeRobotics$Tape" "length" "I", Cond.instanceMethod yX3_append, Cond.selects RX3 yX3_append yX3_append, Cond.code yX3_append cX3_append 2 (some .int), Cond.static yX4_put, Cond.code yX4_put cX4_put 3 none, Cond.instanceMethod yX0_passFile, Cond.selects RX0 yX0_passFile yX0_passFile]
def wsX4_write_r3 : List Cond := [Cond.code yX0_passFile cX0_passFile 4 (some .int), Cond.fieldLink RX0 15 "TapeRobotics$Drive" "place" "I", Cond.methodLink RX0 58 yX0_fileTime, Cond.instanceMethod yX0_fileTime, Cond.selects RX0 yX0_fileTime yX0_fileTime, Cond.code yX0_fileTime cX0_fileTime 5 (some .int), Cond.methodLink RX0 51 yX0_wayTime, Cond.instanceMethod yX0_wayTime, Cond.selects RX0 yX0_wayTime yX0_wayTime, Cond.code yX0_wayTime cX0_wayTime 6 (some .int), Cond.methodLink RX0 34 Lib.Math.abs.name, Cond.static Lib.Math.abs.name, Cond.initialized "java/lang/Math", Cond.code Lib.Math.abs.name Lib.Math.abs.code 1 (some .int), Cond.fieldLink RX0 28 "TapeRobotics$Drive" "pace" "I", Cond.fieldLink RX0 31 "TapeRobotics$Drive" "step" "I", Cond.instanceMethod yX3_distanceAlong, Cond.selects RX3 yX3_distanceAlong yX3_distanceAlong, Cond.code yX3_distanceAlong cX3_distanceAlong 4 (some .int), Cond.methodLink RX3 57 Lib.Math.min.name, Cond.static Lib.Math.min.name, Cond.code Lib.Math.min.name Lib.Math.min.code 2 (some .int), Cond.methodLink RX3 54 yX3_trackOf, Cond.instanceMethod yX3_trackOf]
def wsX4_write_r4 : List Cond := [Cond.selects RX3 yX3_trackOf yX3_trackOf, Cond.code yX3_trackOf cX3_trackOf 3 (some .int), Cond.instanceMethod yX3_endOf, Cond.selects RX3 yX3_endOf yX3_endOf, Cond.code yX3_endOf cX3_endOf 2 (some .int), Cond.methodLink RX0 61 yX0_spend, Cond.instanceMethod yX0_spend, Cond.selects RX0 yX0_spend yX0_spend, Cond.code yX0_spend cX0_spend 2 (some .int), Cond.fieldLink RX0 19 "TapeRobotics$Drive" "time" "I"]
def wsX4_write : List Cond := .code yX4_write cX4_write 6 (some .int) :: ((wsX4_write_r1 ++ (wsX4_write_r2 ++ (wsX4_write_r3 ++ wsX4_write_r4))) ++ wsX40 ++ wsX00 ++ wsX30 ++ (vx_atS RX4 46 "java/lang/IllegalArgumentException" ["java/lang/RuntimeException", "java/lang/Exception"]).filter goodWord ++ (vx_atS RX4 55 "java/lang/IllegalStateException" ["java/lang/RuntimeException", "java/lang/Exception"]).filter goodWord ++ (vx_atS RX4 71 "java/lang/IndexOutOfBoundsException" ["java/lang/RuntimeException", "java/lang/Exception"]).filter goodWord)
def wsX4_read_r1 : List Cond := [Cond.methodLink RX4 114 yX4_driveNumbered, Cond.instanceMethod yX4_driveNumbered, Cond.selects RX4 yX4_driveNumbered yX4_driveNumbered, Cond.initialized RX4, Cond.code yX4_driveNumbered cX4_driveNumbered 3 (some (.object "TapeRobotics$Drive")), Cond.classLink RX4 67 "java/lang/IndexOutOfBoundsException", Cond.initialized "java/lang/IndexOutOfBoundsException", Cond.fieldLink RX4 21 "TapeRobotics" "drives" "[LTapeRobotics$Drive;", Cond.methodLink RX4 140 yX4_mountedIn, Cond.static yX4_mountedIn, Cond.code yX4_mountedIn cX4_mountedIn 2 (some (.object "TapeRobotics$Tape")), Cond.classLink RX4 51 "java/lang/IllegalStateException", Cond.initialized "java/lang/IllegalStateException", Cond.methodLink RX4 91 yX4_refuseMissingFile, Cond.static yX4_refuseMissingFile, Cond.code yX4_refuseMissingFile cX4_refuseMissingFile 2 none, Cond.methodLink RX4 150 yX4_refuseUnclean, Cond.static yX4_refuseUnclean, Cond.code yX4_refuseUnclean cX4_refuseUnclean 1 none, Cond.instanceMethod yX0_wantsCleaning, Cond.initialized RX0, Cond.selects RX0 yX0_wantsCleaning yX0_wantsCleaning, Cond.code yX0_wantsCleaning cX0_wantsCleaning 1 (some .boolean), Cond.fieldLink RX0 22 "TapeRobotics$Drive" "filesSinceCleaning" "I"]
def wsX4_read_r2 : List Cond := [Cond.instanceMethod yX0_passFile, Cond.selects RX0 yX0_passFile yX0_passFile, Cond.code yX0_passFile cX0_passFile 4 (some .int), Cond.fieldLink RX0 15 "TapeRobotics$Drive" "place" "I", Cond.methodLink RX0 58 yX0_fileTime, Cond.instanceMethod yX0_fileTime, Cond.selects RX0 yX0_fileTime yX0_fileTime, Cond.code yX0_fileTime cX0_fileTime 5 (some .int), Cond.instanceMethod yX3_beginOf, Cond.initialized RX3, Cond.selects RX3 yX3_beginOf yX3_beginOf, Cond.code yX3_beginOf cX3_beginOf 2 (some .int), Cond.fieldLink RX3 22 "TapeRobotics$Tape" "borders" "[I", Cond.static yX4_at, Cond.code yX4_at cX4_at 2 (some .int), Cond.methodLink RX0 51 yX0_wayTime, Cond.instanceMethod yX0_wayTime, Cond.selects RX0 yX0_wayTime yX0_wayTime, Cond.code yX0_wayTime cX0_wayTime 6 (some .int), Cond.methodLink RX0 34 Lib.Math.abs.name, Cond.static Lib.Math.abs.name, Cond.initialized "java/lang/Math", Cond.code Lib.Math.abs.name Lib.Math.abs.code 1 (some .int), Cond.fieldLink RX0 28 "TapeRobotics$Drive" "pace" "I"]
def wsX4_read_r3 : List Cond := [Cond.fieldLink RX0 31 "TapeRobotics$Drive" "step" "I", Cond.instanceMethod yX3_distanceAlong, Cond.selects RX3 yX3_distanceAlong yX3_distanceAlong, Cond.code yX3_distanceAlong cX3_distanceAlong 4 (some .int), Cond.fieldLink RX3 32 "TapeRobotics$Tape" "length" "I", Cond.methodLink RX3 57 Lib.Math.min.name, Cond.static Lib.Math.min.name, Cond.code Lib.Math.min.name Lib.Math.min.code 2 (some .int), Cond.methodLink RX3 54 yX3_trackOf, Cond.instanceMethod yX3_trackOf, Cond.selects RX3 yX3_trackOf yX3_trackOf, Cond.code yX3_trackOf cX3_trackOf 3 (some .int), Cond.fieldLink RX3 29 "TapeRobotics$Tape" "tracks" "I", Cond.instanceMethod yX3_endOf, Cond.selects RX3 yX3_endOf yX3_endOf, Cond.code yX3_endOf cX3_endOf 2 (some .int), Cond.methodLink RX0 61 yX0_spend, Cond.instanceMethod yX0_spend, Cond.selects RX0 yX0_spend yX0_spend, Cond.code yX0_spend cX0_spend 2 (some .int), Cond.fieldLink RX0 19 "TapeRobotics$Drive" "time" "I"]
def wsX4_read : List Cond := .code yX4_read cX4_read 5 (some .int) :: ((wsX4_read_r1 ++ (wsX4_read_r2 ++ wsX4_read_r3)) ++ wsX40 ++ wsX00 ++ wsX30 ++ (vx_atS RX4 71 "java/lang/IndexOutOfBoundsException" ["java/lang/RuntimeException", "java/lang/Exception"]).filter goodWord ++ (vx_atS RX4 55 "java/lang/IllegalStateException" ["java/lang/RuntimeException", "java/lang/Exception"]).filter goodWord)
def wsX4_clean : List Cond := .code yX4_clean cX4_clean 4 (some .int) :: ([.classLink RX4 51 "java/lang/IllegalStateException", .initialized "java/lang/IllegalStateException", .methodLink RX4 114 yX4_driveNumbered, .instanceMethod yX4_driveNumbered, .selects RX4 yX4_driveNumbered yX4_driveNumbered, .initialized RX4, .code yX4_driveNumbered cX4_driveNumbered 3 (some (.object "TapeRobotics$Drive")), .classLink RX4 67 "java/lang/IndexOutOfBoundsException", .initialized "java/lang/IndexOutOfBoundsException", .fieldLink RX4 21 "TapeRobotics" "drives" "[LTapeRobotics$Drive;", .instanceMethod yX0_spend, .initialized RX0, .selects RX0 yX0_spend yX0_spend, .code yX0_spend cX0_spend 2 (some .int), .fieldLink RX0 19 "TapeRobotics$Drive" "time" "I"] ++ wsX00 ++ wsX40 ++ (vx_atS RX4 55 "java/lang/IllegalStateException" ["java/lang/RuntimeException", "java/lang/Exception"]).filter goodWord ++ (vx_atS RX4 71 "java/lang/IndexOutOfBoundsException" ["java/lang/RuntimeException", "java/lang/Exception"]).filter goodWord)
def wsX4_clock : List Cond := .code yX4_clock cX4_clock 2 (some .int) :: ([.methodLink RX4 114 yX4_driveNumbered, .instanceMethod yX4_driveNumbered, .selects RX4 yX4_driveNumbered yX4_driveNumbered, .initialized RX4, .code yX4_driveNumbered cX4_driveNumbered 3 (some (.object "TapeRobotics$Drive")), .classLink RX4 67 "java/lang/IndexOutOfBoundsException", .initialized "java/lang/IndexOutOfBoundsException", .fieldLink RX4 21 "TapeRobotics" "drives" "[LTapeRobotics$Drive;"] ++ wsX00 ++ wsX40 ++ (vx_atS RX4 71 "java/lang/IndexOutOfBoundsException" ["java/lang/RuntimeException", "java/lang/Exception"]).filter goodWord)
def wsX4_stands : List Cond := .code yX4_stands cX4_stands 2 (some .int) :: ([.methodLink RX4 114 yX4_driveNumbered, .instanceMethod yX4_driveNumbered, .selects RX4 yX4_driveNumbered yX4_driveNumbered, .initialized RX4, .code yX4_driveNumbered cX4_driveNumbered 3 (some (.object "TapeRobotics$Drive")), .classLink RX4 67 "java/lang/IndexOutOfBoundsException", .initialized "java/lang/IndexOutOfBoundsException", .fieldLink RX4 21 "TapeRobotics" "drives" "[LTapeRobotics$Drive;"] ++ wsX00 ++ wsX40 ++ (vx_atS RX4 71 "java/lang/IndexOutOfBoundsException" ["java/lang/RuntimeException", "java/lang/Exception"]).filter goodWord)
def wsX4_job_r1 : List Cond := [Cond.classLink RX4 42 "java/lang/IllegalArgumentException", Cond.initialized "java/lang/IllegalArgumentException", Cond.classLink RX4 51 "java/lang/IllegalStateException", Cond.initialized "java/lang/IllegalStateException", Cond.constant RX4 174 (99999), Cond.fieldLink RX4 31 "TapeRobotics" "jobs" "LTapeRobotics$Jobs;", Cond.methodLink RX4 63 yX4_tapeNumbered, Cond.instanceMethod yX4_tapeNumbered, Cond.selects RX4 yX4_tapeNumbered yX4_tapeNumbered, Cond.initialized RX4, Cond.code yX4_tapeNumbered cX4_tapeNumbered 3 (some (.object "TapeRobotics$Tape")), Cond.classLink RX4 67 "java/lang/IndexOutOfBoundsException", Cond.initialized "java/lang/IndexOutOfBoundsException", Cond.fieldLink RX4 11 "TapeRobotics" "tapes" "[LTapeRobotics$Tape;", Cond.methodLink RX4 91 yX4_refuseMissingFile, Cond.static yX4_refuseMissingFile, Cond.code yX4_refuseMissingFile cX4_refuseMissingFile 2 none, Cond.instanceMethod yX1_countAt, Cond.initialized RX1, Cond.selects RX1 yX1_countAt yX1_countAt, Cond.code yX1_countAt cX1_countAt 4 (some .int), Cond.fieldLink RX1 9 "TapeRobotics$Jobs" "count" "I", Cond.fieldLink RX1 18 "TapeRobotics$Jobs" "waitsAt" "[I", Cond.static yX4_at]
def wsX4_job_r2 : List Cond := [Cond.code yX4_at cX4_at 2 (some .int), Cond.instanceMethod yX1_enter, Cond.selects RX1 yX1_enter yX1_enter, Cond.code yX1_enter cX1_enter 4 (some .int), Cond.fieldLink RX1 22 "TapeRobotics$Jobs" "files" "[I", Cond.fieldLink RX1 25 "TapeRobotics$Jobs" "deadlines" "[I", Cond.static yX4_put, Cond.code yX4_put cX4_put 3 none]
def wsX4_job : List Cond := .code yX4_job cX4_job 5 (some .int) :: ((wsX4_job_r1 ++ wsX4_job_r2) ++ wsX40 ++ wsX10 ++ wsX30 ++ (vx_atS RX4 46 "java/lang/IllegalArgumentException" ["java/lang/RuntimeException", "java/lang/Exception"]).filter goodWord ++ (vx_atS RX4 55 "java/lang/IllegalStateException" ["java/lang/RuntimeException", "java/lang/Exception"]).filter goodWord ++ (vx_atS RX4 71 "java/lang/IndexOutOfBoundsException" ["java/lang/RuntimeException", "java/lang/Exception"]).filter goodWord)
def wsX4_waiting : List Cond := .code yX4_waiting cX4_waiting 2 (some .int) :: ([.fieldLink RX4 31 "TapeRobotics" "jobs" "LTapeRobotics$Jobs;", .methodLink RX4 63 yX4_tapeNumbered, .instanceMethod yX4_tapeNumbered, .selects RX4 yX4_tapeNumbered yX4_tapeNumbered, .initialized RX4, .code yX4_tapeNumbered cX4_tapeNumbered 3 (some (.object "TapeRobotics$Tape")), .classLink RX4 67 "java/lang/IndexOutOfBoundsException", .initialized "java/lang/IndexOutOfBoundsException", .fieldLink RX4 11 "TapeRobotics" "tapes" "[LTapeRobotics$Tape;", .instanceMethod yX1_countAt, .initialized RX1, .selects RX1 yX1_countAt yX1_countAt, .code yX1_countAt cX1_countAt 4 (some .int), .fieldLink RX1 9 "TapeRobotics$Jobs" "count" "I", .fieldLink RX1 18 "TapeRobotics$Jobs" "waitsAt" "[I", .static yX4_at, .code yX4_at cX4_at 2 (some .int)] ++ wsX40 ++ wsX30 ++ wsX10 ++ (vx_atS RX4 71 "java/lang/IndexOutOfBoundsException" ["java/lang/RuntimeException", "java/lang/Exception"]).filter goodWord)
def wsX4_next_r1 : List Cond := [Cond.fieldLink RX4 11 "TapeRobotics" "tapes" "[LTapeRobotics$Tape;", Cond.fieldLink RX4 31 "TapeRobotics" "jobs" "LTapeRobotics$Jobs;", Cond.instanceMethod yX3_isInDrive, Cond.initialized RX3, Cond.selects RX3 yX3_isInDrive yX3_isInDrive, Cond.code yX3_isInDrive cX3_isInDrive 1 (some .boolean), Cond.fieldLink RX3 9 "TapeRobotics$Tape" "driveNumber" "I", Cond.instanceMethod yX1_countAt, Cond.initialized RX1, Cond.selects RX1 yX1_countAt yX1_countAt, Cond.code yX1_countAt cX1_countAt 4 (some .int), Cond.fieldLink RX1 9 "TapeRobotics$Jobs" "count" "I", Cond.fieldLink RX1 18 "TapeRobotics$Jobs" "waitsAt" "[I", Cond.static yX4_at, Cond.initialized RX4, Cond.code yX4_at cX4_at 2 (some .int), Cond.instanceMethod yX1_earliestDeadlineAt, Cond.selects RX1 yX1_earliestDeadlineAt yX1_earliestDeadlineAt, Cond.code yX1_earliestDeadlineAt cX1_earliestDeadlineAt 4 (some .int), Cond.constant RX1 36 (99999), Cond.fieldLink RX1 25 "TapeRobotics$Jobs" "deadlines" "[I", Cond.methodLink RX1 37 Lib.Math.min.name, Cond.static Lib.Math.min.name, Cond.initialized "java/lang/Math"]
def wsX4_next_r2 : List Cond := [Cond.code Lib.Math.min.name Lib.Math.min.code 2 (some .int)]
def wsX4_next : List Cond := .code yX4_next cX4_next 11 (some .int) :: ((wsX4_next_r1 ++ wsX4_next_r2) ++ wsX40 ++ wsX30 ++ wsX10)
def wsX4_measureOrders_r1 : List Cond := [Cond.fieldLink RX4 38 "TapeRobotics" "orders" "LTapeRobotics$Orders;", Cond.fieldLink RX4 31 "TapeRobotics" "jobs" "LTapeRobotics$Jobs;", Cond.methodLink RX4 140 yX4_mountedIn, Cond.static yX4_mountedIn, Cond.initialized RX4, Cond.code yX4_mountedIn cX4_mountedIn 2 (some (.object "TapeRobotics$Tape")), Cond.classLink RX4 51 "java/lang/IllegalStateException", Cond.initialized "java/lang/IllegalStateException", Cond.instanceMethod yX2_measure, Cond.initialized RX2, Cond.selects RX2 yX2_measure yX2_measure, Cond.code yX2_measure cX2_measure 8 none, Cond.fieldLink RX2 15 "TapeRobotics$Orders" "numbers" "[I", Cond.fieldLink RX2 9 "TapeRobotics$Orders" "count" "I", Cond.fieldLink RX2 19 "TapeRobotics$Orders" "legs" "[I", Cond.instanceMethod yX1_collectAt, Cond.initialized RX1, Cond.selects RX1 yX1_collectAt yX1_collectAt, Cond.code yX1_collectAt cX1_collectAt 5 (some .int), Cond.fieldLink RX1 9 "TapeRobotics$Jobs" "count" "I", Cond.fieldLink RX1 18 "TapeRobotics$Jobs" "waitsAt" "[I", Cond.methodLink RX1 37 Lib.Math.min.name, Cond.static Lib.Math.min.name, Cond.initialized "java/lang/Math"]
def wsX4_measureOrders_r2 : List Cond := [Cond.code Lib.Math.min.name Lib.Math.min.code 2 (some .int), Cond.static yX4_at, Cond.code yX4_at cX4_at 2 (some .int), Cond.static yX4_put, Cond.code yX4_put cX4_put 3 none, Cond.instanceMethod yX1_fileOf, Cond.selects RX1 yX1_fileOf yX1_fileOf, Cond.code yX1_fileOf cX1_fileOf 2 (some .int), Cond.fieldLink RX1 22 "TapeRobotics$Jobs" "files" "[I", Cond.instanceMethod yX0_fileTime, Cond.initialized RX0, Cond.selects RX0 yX0_fileTime yX0_fileTime, Cond.code yX0_fileTime cX0_fileTime 5 (some .int), Cond.instanceMethod yX3_beginOf, Cond.initialized RX3, Cond.selects RX3 yX3_beginOf yX3_beginOf, Cond.code yX3_beginOf cX3_beginOf 2 (some .int), Cond.fieldLink RX3 22 "TapeRobotics$Tape" "borders" "[I", Cond.methodLink RX0 51 yX0_wayTime, Cond.instanceMethod yX0_wayTime, Cond.selects RX0 yX0_wayTime yX0_wayTime, Cond.code yX0_wayTime cX0_wayTime 6 (some .int), Cond.methodLink RX0 34 Lib.Math.abs.name, Cond.static Lib.Math.abs.name]
def wsX4_measureOrders_r3 : List Cond := [Cond.code Lib.Math.abs.name Lib.Math.abs.code 1 (some .int), Cond.fieldLink RX0 28 "TapeRobotics$Drive" "pace" "I", Cond.fieldLink RX0 31 "TapeRobotics$Drive" "step" "I", Cond.instanceMethod yX3_distanceAlong, Cond.selects RX3 yX3_distanceAlong yX3_distanceAlong, Cond.code yX3_distanceAlong cX3_distanceAlong 4 (some .int), Cond.fieldLink RX3 32 "TapeRobotics$Tape" "length" "I", Cond.methodLink RX3 57 Lib.Math.min.name, Cond.methodLink RX3 54 yX3_trackOf, Cond.instanceMethod yX3_trackOf, Cond.selects RX3 yX3_trackOf yX3_trackOf, Cond.code yX3_trackOf cX3_trackOf 3 (some .int), Cond.fieldLink RX3 29 "TapeRobotics$Tape" "tracks" "I", Cond.instanceMethod yX3_endOf, Cond.selects RX3 yX3_endOf yX3_endOf, Cond.code yX3_endOf cX3_endOf 2 (some .int)]
def wsX4_measureOrders : List Cond := .code yX4_measureOrders cX4_measureOrders 2 none :: ((wsX4_measureOrders_r1 ++ (wsX4_measureOrders_r2 ++ wsX4_measureOrders_r3)) ++ wsX40 ++ wsX00 ++ wsX30 ++ wsX20 ++ wsX10 ++ (vx_atS RX4 55 "java/lang/IllegalStateException" ["java/lang/RuntimeException", "java/lang/Exception"]).filter goodWord)
def wsX4_bestTime_r1 : List Cond := [Cond.fieldLink RX4 38 "TapeRobotics" "orders" "LTapeRobotics$Orders;", Cond.methodLink RX4 114 yX4_driveNumbered, Cond.instanceMethod yX4_driveNumbered, Cond.selects RX4 yX4_driveNumbered yX4_driveNumbered, Cond.initialized RX4, Cond.code yX4_driveNumbered cX4_driveNumbered 3 (some (.object "TapeRobotics$Drive")), Cond.classLink RX4 67 "java/lang/IndexOutOfBoundsException", Cond.initialized "java/lang/IndexOutOfBoundsException", Cond.fieldLink RX4 21 "TapeRobotics" "drives" "[LTapeRobotics$Drive;", Cond.methodLink RX4 193 yX4_measureOrders, Cond.instanceMethod yX4_measureOrders, Cond.selects RX4 yX4_measureOrders yX4_measureOrders, Cond.code yX4_measureOrders cX4_measureOrders 2 none, Cond.fieldLink RX4 31 "TapeRobotics" "jobs" "LTapeRobotics$Jobs;", Cond.methodLink RX4 140 yX4_mountedIn, Cond.static yX4_mountedIn, Cond.code yX4_mountedIn cX4_mountedIn 2 (some (.object "TapeRobotics$Tape")), Cond.classLink RX4 51 "java/lang/IllegalStateException", Cond.initialized "java/lang/IllegalStateException", Cond.instanceMethod yX2_measure, Cond.initialized RX2, Cond.selects RX2 yX2_measure yX2_measure, Cond.code yX2_measure cX2_measure 8 none, Cond.fieldLink RX2 15 "TapeRobotics$Orders" "numbers" "[I"]
def wsX4_bestTime_r2 : List Cond := [Cond.fieldLink RX2 9 "TapeRobotics$Orders" "count" "I", Cond.fieldLink RX2 19 "TapeRobotics$Orders" "legs" "[I", Cond.instanceMethod yX1_collectAt, Cond.initialized RX1, Cond.selects RX1 yX1_collectAt yX1_collectAt, Cond.code yX1_collectAt cX1_collectAt 5 (some .int), Cond.fieldLink RX1 9 "TapeRobotics$Jobs" "count" "I", Cond.fieldLink RX1 18 "TapeRobotics$Jobs" "waitsAt" "[I", Cond.methodLink RX1 37 Lib.Math.min.name, Cond.static Lib.Math.min.name, Cond.initialized "java/lang/Math", Cond.code Lib.Math.min.name Lib.Math.min.code 2 (some .int), Cond.static yX4_at, Cond.code yX4_at cX4_at 2 (some .int), Cond.static yX4_put, Cond.code yX4_put cX4_put 3 none, Cond.instanceMethod yX1_fileOf, Cond.selects RX1 yX1_fileOf yX1_fileOf, Cond.code yX1_fileOf cX1_fileOf 2 (some .int), Cond.fieldLink RX1 22 "TapeRobotics$Jobs" "files" "[I", Cond.instanceMethod yX0_fileTime, Cond.initialized RX0, Cond.selects RX0 yX0_fileTime yX0_fileTime, Cond.code yX0_fileTime cX0_fileTime 5 (some .int)]
def wsX4_bestTime_r3 : List Cond := [Cond.instanceMethod yX3_beginOf, Cond.initialized RX3, Cond.selects RX3 yX3_beginOf yX3_beginOf, Cond.code yX3_beginOf cX3_beginOf 2 (some .int), Cond.fieldLink RX3 22 "TapeRobotics$Tape" "borders" "[I", Cond.methodLink RX0 51 yX0_wayTime, Cond.instanceMethod yX0_wayTime, Cond.selects RX0 yX0_wayTime yX0_wayTime, Cond.code yX0_wayTime cX0_wayTime 6 (some .int), Cond.methodLink RX0 34 Lib.Math.abs.name, Cond.static Lib.Math.abs.name, Cond.code Lib.Math.abs.name Lib.Math.abs.code 1 (some .int), Cond.fieldLink RX0 28 "TapeRobotics$Drive" "pace" "I", Cond.fieldLink RX0 31 "TapeRobotics$Drive" "step" "I", Cond.instanceMethod yX3_distanceAlong, Cond.selects RX3 yX3_distanceAlong yX3_distanceAlong, Cond.code yX3_distanceAlong cX3_distanceAlong 4 (some .int), Cond.fieldLink RX3 32 "TapeRobotics$Tape" "length" "I", Cond.methodLink RX3 57 Lib.Math.min.name, Cond.methodLink RX3 54 yX3_trackOf, Cond.instanceMethod yX3_trackOf, Cond.selects RX3 yX3_trackOf yX3_trackOf, Cond.code yX3_trackOf cX3_trackOf 3 (some .int), Cond.fieldLink RX3 29 "TapeRobotics$Tape" "tracks" "I"]
def wsX4_bestTime_r4 : List Cond := [Cond.instanceMethod yX3_endOf, Cond.selects RX3 yX3_endOf yX3_endOf, Cond.code yX3_endOf cX3_endOf 2 (some .int), Cond.instanceMethod yX2_findBest, Cond.selects RX2 yX2_findBest yX2_findBest, Cond.code yX2_findBest cX2_findBest 4 none, Cond.fieldLink RX2 22 "TapeRobotics$Orders" "rests" "[I", Cond.fieldLink RX2 25 "TapeRobotics$Orders" "best" "[I", Cond.methodLink RX2 70 yX2_restBehind, Cond.instanceMethod yX2_restBehind, Cond.selects RX2 yX2_restBehind yX2_restBehind, Cond.code yX2_restBehind cX2_restBehind 4 (some .int), Cond.methodLink RX2 73 yX2_bestFollower, Cond.instanceMethod yX2_bestFollower, Cond.selects RX2 yX2_bestFollower yX2_bestFollower, Cond.code yX2_bestFollower cX2_bestFollower 7 (some .int), Cond.methodLink RX2 76 yX2_restThrough, Cond.instanceMethod yX2_restThrough, Cond.selects RX2 yX2_restThrough yX2_restThrough, Cond.code yX2_restThrough cX2_restThrough 4 (some .int), Cond.methodLink RX2 66 yX2_leg, Cond.instanceMethod yX2_leg, Cond.selects RX2 yX2_leg yX2_leg, Cond.code yX2_leg cX2_leg 3 (some .int)]
def wsX4_bestTime_r5 : List Cond := [Cond.instanceMethod yX2_timeOf, Cond.selects RX2 yX2_timeOf yX2_timeOf, Cond.code yX2_timeOf cX2_timeOf 7 (some .int)]
def wsX4_bestTime : List Cond := .code yX4_bestTime cX4_bestTime 2 (some .int) :: ((wsX4_bestTime_r1 ++ (wsX4_bestTime_r2 ++ (wsX4_bestTime_r3 ++ (wsX4_bestTime_r4 ++ wsX4_bestTime_r5)))) ++ wsX40 ++ wsX20 ++ wsX00 ++ wsX30 ++ wsX10 ++ (vx_atS RX4 71 "java/lang/IndexOutOfBoundsException" ["java/lang/RuntimeException", "java/lang/Exception"]).filter goodWord ++ (vx_atS RX4 55 "java/lang/IllegalStateException" ["java/lang/RuntimeException", "java/lang/Exception"]).filter goodWord)
def wsX4_bestJob_r1 : List Cond := [Cond.classLink RX4 67 "java/lang/IndexOutOfBoundsException", Cond.initialized "java/lang/IndexOutOfBoundsException", Cond.fieldLink RX4 38 "TapeRobotics" "orders" "LTapeRobotics$Orders;", Cond.methodLink RX4 114 yX4_driveNumbered, Cond.instanceMethod yX4_driveNumbered, Cond.selects RX4 yX4_driveNumbered yX4_driveNumbered, Cond.initialized RX4, Cond.code yX4_driveNumbered cX4_driveNumbered 3 (some (.object "TapeRobotics$Drive")), Cond.fieldLink RX4 21 "TapeRobotics" "drives" "[LTapeRobotics$Drive;", Cond.methodLink RX4 193 yX4_measureOrders, Cond.instanceMethod yX4_measureOrders, Cond.selects RX4 yX4_measureOrders yX4_measureOrders, Cond.code yX4_measureOrders cX4_measureOrders 2 none, Cond.fieldLink RX4 31 "TapeRobotics" "jobs" "LTapeRobotics$Jobs;", Cond.methodLink RX4 140 yX4_mountedIn, Cond.static yX4_mountedIn, Cond.code yX4_mountedIn cX4_mountedIn 2 (some (.object "TapeRobotics$Tape")), Cond.classLink RX4 51 "java/lang/IllegalStateException", Cond.initialized "java/lang/IllegalStateException", Cond.instanceMethod yX2_measure, Cond.initialized RX2, Cond.selects RX2 yX2_measure yX2_measure, Cond.code yX2_measure cX2_measure 8 none, Cond.fieldLink RX2 15 "TapeRobotics$Orders" "numbers" "[I"]
def wsX4_bestJob_r2 : List Cond := [Cond.fieldLink RX2 9 "TapeRobotics$Orders" "count" "I", Cond.fieldLink RX2 19 "TapeRobotics$Orders" "legs" "[I", Cond.instanceMethod yX1_collectAt, Cond.initialized RX1, Cond.selects RX1 yX1_collectAt yX1_collectAt, Cond.code yX1_collectAt cX1_collectAt 5 (some .int), Cond.fieldLink RX1 9 "TapeRobotics$Jobs" "count" "I", Cond.fieldLink RX1 18 "TapeRobotics$Jobs" "waitsAt" "[I", Cond.methodLink RX1 37 Lib.Math.min.name, Cond.static Lib.Math.min.name, Cond.initialized "java/lang/Math", Cond.code Lib.Math.min.name Lib.Math.min.code 2 (some .int), Cond.static yX4_at, Cond.code yX4_at cX4_at 2 (some .int), Cond.static yX4_put, Cond.code yX4_put cX4_put 3 none, Cond.instanceMethod yX1_fileOf, Cond.selects RX1 yX1_fileOf yX1_fileOf, Cond.code yX1_fileOf cX1_fileOf 2 (some .int), Cond.fieldLink RX1 22 "TapeRobotics$Jobs" "files" "[I", Cond.instanceMethod yX0_fileTime, Cond.initialized RX0, Cond.selects RX0 yX0_fileTime yX0_fileTime, Cond.code yX0_fileTime cX0_fileTime 5 (some .int)]
def wsX4_bestJob_r3 : List Cond := [Cond.instanceMethod yX3_beginOf, Cond.initialized RX3, Cond.selects RX3 yX3_beginOf yX3_beginOf, Cond.code yX3_beginOf cX3_beginOf 2 (some .int), Cond.fieldLink RX3 22 "TapeRobotics$Tape" "borders" "[I", Cond.methodLink RX0 51 yX0_wayTime, Cond.instanceMethod yX0_wayTime, Cond.selects RX0 yX0_wayTime yX0_wayTime, Cond.code yX0_wayTime cX0_wayTime 6 (some .int), Cond.methodLink RX0 34 Lib.Math.abs.name, Cond.static Lib.Math.abs.name, Cond.code Lib.Math.abs.name Lib.Math.abs.code 1 (some .int), Cond.fieldLink RX0 28 "TapeRobotics$Drive" "pace" "I", Cond.fieldLink RX0 31 "TapeRobotics$Drive" "step" "I", Cond.instanceMethod yX3_distanceAlong, Cond.selects RX3 yX3_distanceAlong yX3_distanceAlong, Cond.code yX3_distanceAlong cX3_distanceAlong 4 (some .int), Cond.fieldLink RX3 32 "TapeRobotics$Tape" "length" "I", Cond.methodLink RX3 57 Lib.Math.min.name, Cond.methodLink RX3 54 yX3_trackOf, Cond.instanceMethod yX3_trackOf, Cond.selects RX3 yX3_trackOf yX3_trackOf, Cond.code yX3_trackOf cX3_trackOf 3 (some .int), Cond.fieldLink RX3 29 "TapeRobotics$Tape" "tracks" "I"]
def wsX4_bestJob_r4 : List Cond := [Cond.instanceMethod yX3_endOf, Cond.selects RX3 yX3_endOf yX3_endOf, Cond.code yX3_endOf cX3_endOf 2 (some .int), Cond.instanceMethod yX2_findBest, Cond.selects RX2 yX2_findBest yX2_findBest, Cond.code yX2_findBest cX2_findBest 4 none, Cond.fieldLink RX2 22 "TapeRobotics$Orders" "rests" "[I", Cond.fieldLink RX2 25 "TapeRobotics$Orders" "best" "[I", Cond.methodLink RX2 70 yX2_restBehind, Cond.instanceMethod yX2_restBehind, Cond.selects RX2 yX2_restBehind yX2_restBehind, Cond.code yX2_restBehind cX2_restBehind 4 (some .int), Cond.methodLink RX2 73 yX2_bestFollower, Cond.instanceMethod yX2_bestFollower, Cond.selects RX2 yX2_bestFollower yX2_bestFollower, Cond.code yX2_bestFollower cX2_bestFollower 7 (some .int), Cond.methodLink RX2 76 yX2_restThrough, Cond.instanceMethod yX2_restThrough, Cond.selects RX2 yX2_restThrough yX2_restThrough, Cond.code yX2_restThrough cX2_restThrough 4 (some .int), Cond.methodLink RX2 66 yX2_leg, Cond.instanceMethod yX2_leg, Cond.selects RX2 yX2_leg yX2_leg, Cond.code yX2_leg cX2_leg 3 (some .int)]
def wsX4_bestJob_r5 : List Cond := [Cond.instanceMethod yX2_bestJobAt, Cond.selects RX2 yX2_bestJobAt yX2_bestJobAt, Cond.code yX2_bestJobAt cX2_bestJobAt 2 (some .int)]
def wsX4_bestJob : List Cond := .code yX4_bestJob cX4_bestJob 3 (some .int) :: ((wsX4_bestJob_r1 ++ (wsX4_bestJob_r2 ++ (wsX4_bestJob_r3 ++ (wsX4_bestJob_r4 ++ wsX4_bestJob_r5)))) ++ wsX40 ++ wsX20 ++ wsX00 ++ wsX30 ++ wsX10 ++ (vx_atS RX4 71 "java/lang/IndexOutOfBoundsException" ["java/lang/RuntimeException", "java/lang/Exception"]).filter goodWord ++ (vx_atS RX4 55 "java/lang/IllegalStateException" ["java/lang/RuntimeException", "java/lang/Exception"]).filter goodWord)
def wsX4_insertedTime_r1 : List Cond := [Cond.fieldLink RX4 38 "TapeRobotics" "orders" "LTapeRobotics$Orders;", Cond.methodLink RX4 114 yX4_driveNumbered, Cond.instanceMethod yX4_driveNumbered, Cond.selects RX4 yX4_driveNumbered yX4_driveNumbered, Cond.initialized RX4, Cond.code yX4_driveNumbered cX4_driveNumbered 3 (some (.object "TapeRobotics$Drive")), Cond.classLink RX4 67 "java/lang/IndexOutOfBoundsException", Cond.initialized "java/lang/IndexOutOfBoundsException", Cond.fieldLink RX4 21 "TapeRobotics" "drives" "[LTapeRobotics$Drive;", Cond.methodLink RX4 193 yX4_measureOrders, Cond.instanceMethod yX4_measureOrders, Cond.selects RX4 yX4_measureOrders yX4_measureOrders, Cond.code yX4_measureOrders cX4_measureOrders 2 none, Cond.fieldLink RX4 31 "TapeRobotics" "jobs" "LTapeRobotics$Jobs;", Cond.methodLink RX4 140 yX4_mountedIn, Cond.static yX4_mountedIn, Cond.code yX4_mountedIn cX4_mountedIn 2 (some (.object "TapeRobotics$Tape")), Cond.classLink RX4 51 "java/lang/IllegalStateException", Cond.initialized "java/lang/IllegalStateException", Cond.instanceMethod yX2_measure, Cond.initialized RX2, Cond.selects RX2 yX2_measure yX2_measure, Cond.code yX2_measure cX2_measure 8 none, Cond.fieldLink RX2 15 "TapeRobotics$Orders" "numbers" "[I"]
def wsX4_insertedTime_r2 : List Cond := [Cond.fieldLink RX2 9 "TapeRobotics$Orders" "count" "I", Cond.fieldLink RX2 19 "TapeRobotics$Orders" "legs" "[I", Cond.instanceMethod yX1_collectAt, Cond.initialized RX1, Cond.selects RX1 yX1_collectAt yX1_collectAt, Cond.code yX1_collectAt cX1_collectAt 5 (some .int), Cond.fieldLink RX1 9 "TapeRobotics$Jobs" "count" "I", Cond.fieldLink RX1 18 "TapeRobotics$Jobs" "waitsAt" "[I", Cond.methodLink RX1 37 Lib.Math.min.name, Cond.static Lib.Math.min.name, Cond.initialized "java/lang/Math", Cond.code Lib.Math.min.name Lib.Math.min.code 2 (some .int), Cond.static yX4_at, Cond.code yX4_at cX4_at 2 (some .int), Cond.static yX4_put, Cond.code yX4_put cX4_put 3 none, Cond.instanceMethod yX1_fileOf, Cond.selects RX1 yX1_fileOf yX1_fileOf, Cond.code yX1_fileOf cX1_fileOf 2 (some .int), Cond.fieldLink RX1 22 "TapeRobotics$Jobs" "files" "[I", Cond.instanceMethod yX0_fileTime, Cond.initialized RX0, Cond.selects RX0 yX0_fileTime yX0_fileTime, Cond.code yX0_fileTime cX0_fileTime 5 (some .int)]
def wsX4_insertedTime_r3 : List Cond := [Cond.instanceMethod yX3_beginOf, Cond.initialized RX3, Cond.selects RX3 yX3_beginOf yX3_beginOf, Cond.code yX3_beginOf cX3_beginOf 2 (some .int), Cond.fieldLink RX3 22 "TapeRobotics$Tape" "borders" "[I", Cond.methodLink RX0 51 yX0_wayTime, Cond.instanceMethod yX0_wayTime, Cond.selects RX0 yX0_wayTime yX0_wayTime, Cond.code yX0_wayTime cX0_wayTime 6 (some .int), Cond.methodLink RX0 34 Lib.Math.abs.name, Cond.static Lib.Math.abs.name, Cond.code Lib.Math.abs.name Lib.Math.abs.code 1 (some .int), Cond.fieldLink RX0 28 "TapeRobotics$Drive" "pace" "I", Cond.fieldLink RX0 31 "TapeRobotics$Drive" "step" "I", Cond.instanceMethod yX3_distanceAlong, Cond.selects RX3 yX3_distanceAlong yX3_distanceAlong, Cond.code yX3_distanceAlong cX3_distanceAlong 4 (some .int), Cond.fieldLink RX3 32 "TapeRobotics$Tape" "length" "I", Cond.methodLink RX3 57 Lib.Math.min.name, Cond.methodLink RX3 54 yX3_trackOf, Cond.instanceMethod yX3_trackOf, Cond.selects RX3 yX3_trackOf yX3_trackOf, Cond.code yX3_trackOf cX3_trackOf 3 (some .int), Cond.fieldLink RX3 29 "TapeRobotics$Tape" "tracks" "I"]
def wsX4_insertedTime_r4 : List Cond := [Cond.instanceMethod yX3_endOf, Cond.selects RX3 yX3_endOf yX3_endOf, Cond.code yX3_endOf cX3_endOf 2 (some .int), Cond.instanceMethod yX2_timeByInsertion, Cond.selects RX2 yX2_timeByInsertion yX2_timeByInsertion, Cond.code yX2_timeByInsertion cX2_timeByInsertion 2 (some .int), Cond.fieldLink RX2 28 "TapeRobotics$Orders" "order" "[I", Cond.methodLink RX2 96 yX2_insert, Cond.instanceMethod yX2_insert, Cond.selects RX2 yX2_insert yX2_insert, Cond.code yX2_insert cX2_insert 6 none, Cond.methodLink RX2 80 yX2_timeOf, Cond.instanceMethod yX2_timeOf, Cond.selects RX2 yX2_timeOf yX2_timeOf, Cond.code yX2_timeOf cX2_timeOf 7 (some .int), Cond.methodLink RX2 66 yX2_leg, Cond.instanceMethod yX2_leg, Cond.selects RX2 yX2_leg yX2_leg, Cond.code yX2_leg cX2_leg 3 (some .int), Cond.methodLink RX2 92 yX2_swap, Cond.instanceMethod yX2_swap, Cond.selects RX2 yX2_swap yX2_swap, Cond.code yX2_swap cX2_swap 4 none]
def wsX4_insertedTime : List Cond := .code yX4_insertedTime cX4_insertedTime 2 (some .int) :: ((wsX4_insertedTime_r1 ++ (wsX4_insertedTime_r2 ++ (wsX4_insertedTime_r3 ++ wsX4_insertedTime_r4))) ++ wsX40 ++ wsX00 ++ wsX30 ++ wsX20 ++ wsX10 ++ (vx_atS RX4 71 "java/lang/IndexOutOfBoundsException" ["java/lang/RuntimeException", "java/lang/Exception"]).filter goodWord ++ (vx_atS RX4 55 "java/lang/IllegalStateException" ["java/lang/RuntimeException", "java/lang/Exception"]).filter goodWord)
def wsX4_triedTime_r1 : List Cond := [Cond.fieldLink RX4 38 "TapeRobotics" "orders" "LTapeRobotics$Orders;", Cond.methodLink RX4 114 yX4_driveNumbered, Cond.instanceMethod yX4_driveNumbered, Cond.selects RX4 yX4_driveNumbered yX4_driveNumbered, Cond.initialized RX4, Cond.code yX4_driveNumbered cX4_driveNumbered 3 (some (.object "TapeRobotics$Drive")), Cond.classLink RX4 67 "java/lang/IndexOutOfBoundsException", Cond.initialized "java/lang/IndexOutOfBoundsException", Cond.fieldLink RX4 21 "TapeRobotics" "drives" "[LTapeRobotics$Drive;", Cond.methodLink RX4 193 yX4_measureOrders, Cond.instanceMethod yX4_measureOrders, Cond.selects RX4 yX4_measureOrders yX4_measureOrders, Cond.code yX4_measureOrders cX4_measureOrders 2 none, Cond.fieldLink RX4 31 "TapeRobotics" "jobs" "LTapeRobotics$Jobs;", Cond.methodLink RX4 140 yX4_mountedIn, Cond.static yX4_mountedIn, Cond.code yX4_mountedIn cX4_mountedIn 2 (some (.object "TapeRobotics$Tape")), Cond.classLink RX4 51 "java/lang/IllegalStateException", Cond.initialized "java/lang/IllegalStateException", Cond.instanceMethod yX2_measure, Cond.initialized RX2, Cond.selects RX2 yX2_measure yX2_measure, Cond.code yX2_measure cX2_measure 8 none, Cond.fieldLink RX2 15 "TapeRobotics$Orders" "numbers" "[I"]
def wsX4_triedTime_r2 : List Cond := [Cond.fieldLink RX2 9 "TapeRobotics$Orders" "count" "I", Cond.fieldLink RX2 19 "TapeRobotics$Orders" "legs" "[I", Cond.instanceMethod yX1_collectAt, Cond.initialized RX1, Cond.selects RX1 yX1_collectAt yX1_collectAt, Cond.code yX1_collectAt cX1_collectAt 5 (some .int), Cond.fieldLink RX1 9 "TapeRobotics$Jobs" "count" "I", Cond.fieldLink RX1 18 "TapeRobotics$Jobs" "waitsAt" "[I", Cond.methodLink RX1 37 Lib.Math.min.name, Cond.static Lib.Math.min.name, Cond.initialized "java/lang/Math", Cond.code Lib.Math.min.name Lib.Math.min.code 2 (some .int), Cond.static yX4_at, Cond.code yX4_at cX4_at 2 (some .int), Cond.static yX4_put, Cond.code yX4_put cX4_put 3 none, Cond.instanceMethod yX1_fileOf, Cond.selects RX1 yX1_fileOf yX1_fileOf, Cond.code yX1_fileOf cX1_fileOf 2 (some .int), Cond.fieldLink RX1 22 "TapeRobotics$Jobs" "files" "[I", Cond.instanceMethod yX0_fileTime, Cond.initialized RX0, Cond.selects RX0 yX0_fileTime yX0_fileTime, Cond.code yX0_fileTime cX0_fileTime 5 (some .int)]
def wsX4_triedTime_r3 : List Cond := [Cond.instanceMethod yX3_beginOf, Cond.initialized RX3, Cond.selects RX3 yX3_beginOf yX3_beginOf, Cond.code yX3_beginOf cX3_beginOf 2 (some .int), Cond.fieldLink RX3 22 "TapeRobotics$Tape" "borders" "[I", Cond.methodLink RX0 51 yX0_wayTime, Cond.instanceMethod yX0_wayTime, Cond.selects RX0 yX0_wayTime yX0_wayTime, Cond.code yX0_wayTime cX0_wayTime 6 (some .int), Cond.methodLink RX0 34 Lib.Math.abs.name, Cond.static Lib.Math.abs.name, Cond.code Lib.Math.abs.name Lib.Math.abs.code 1 (some .int), Cond.fieldLink RX0 28 "TapeRobotics$Drive" "pace" "I", Cond.fieldLink RX0 31 "TapeRobotics$Drive" "step" "I", Cond.instanceMethod yX3_distanceAlong, Cond.selects RX3 yX3_distanceAlong yX3_distanceAlong, Cond.code yX3_distanceAlong cX3_distanceAlong 4 (some .int), Cond.fieldLink RX3 32 "TapeRobotics$Tape" "length" "I", Cond.methodLink RX3 57 Lib.Math.min.name, Cond.methodLink RX3 54 yX3_trackOf, Cond.instanceMethod yX3_trackOf, Cond.selects RX3 yX3_trackOf yX3_trackOf, Cond.code yX3_trackOf cX3_trackOf 3 (some .int), Cond.fieldLink RX3 29 "TapeRobotics$Tape" "tracks" "I"]
def wsX4_triedTime_r4 : List Cond := [Cond.instanceMethod yX3_endOf, Cond.selects RX3 yX3_endOf yX3_endOf, Cond.code yX3_endOf cX3_endOf 2 (some .int), Cond.instanceMethod yX2_timeByTrying, Cond.selects RX2 yX2_timeByTrying yX2_timeByTrying, Cond.code yX2_timeByTrying cX2_timeByTrying 3 (some .int), Cond.fieldLink RX2 28 "TapeRobotics$Orders" "order" "[I", Cond.methodLink RX2 87 Lib.Math.min.name, Cond.methodLink RX2 80 yX2_timeOf, Cond.instanceMethod yX2_timeOf, Cond.selects RX2 yX2_timeOf yX2_timeOf, Cond.code yX2_timeOf cX2_timeOf 7 (some .int), Cond.methodLink RX2 66 yX2_leg, Cond.instanceMethod yX2_leg, Cond.selects RX2 yX2_leg yX2_leg, Cond.code yX2_leg cX2_leg 3 (some .int), Cond.methodLink RX2 83 yX2_advanceOrder, Cond.instanceMethod yX2_advanceOrder, Cond.selects RX2 yX2_advanceOrder yX2_advanceOrder, Cond.code yX2_advanceOrder cX2_advanceOrder 5 (some .boolean), Cond.methodLink RX2 92 yX2_swap, Cond.instanceMethod yX2_swap, Cond.selects RX2 yX2_swap yX2_swap, Cond.code yX2_swap cX2_swap 4 none]
def wsX4_triedTime : List Cond := .code yX4_triedTime cX4_triedTime 2 (some .int) :: ((wsX4_triedTime_r1 ++ (wsX4_triedTime_r2 ++ (wsX4_triedTime_r3 ++ wsX4_triedTime_r4))) ++ wsX40 ++ wsX00 ++ wsX30 ++ wsX20 ++ wsX10 ++ (vx_atS RX4 71 "java/lang/IndexOutOfBoundsException" ["java/lang/RuntimeException", "java/lang/Exception"]).filter goodWord ++ (vx_atS RX4 55 "java/lang/IllegalStateException" ["java/lang/RuntimeException", "java/lang/Exception"]).filter goodWord)
def wsX4_work_r1 : List Cond := [Cond.fieldLink RX4 38 "TapeRobotics" "orders" "LTapeRobotics$Orders;", Cond.fieldLink RX4 31 "TapeRobotics" "jobs" "LTapeRobotics$Jobs;", Cond.methodLink RX4 114 yX4_driveNumbered, Cond.instanceMethod yX4_driveNumbered, Cond.selects RX4 yX4_driveNumbered yX4_driveNumbered, Cond.initialized RX4, Cond.code yX4_driveNumbered cX4_driveNumbered 3 (some (.object "TapeRobotics$Drive")), Cond.classLink RX4 67 "java/lang/IndexOutOfBoundsException", Cond.initialized "java/lang/IndexOutOfBoundsException", Cond.fieldLink RX4 21 "TapeRobotics" "drives" "[LTapeRobotics$Drive;", Cond.methodLink RX4 140 yX4_mountedIn, Cond.static yX4_mountedIn, Cond.code yX4_mountedIn cX4_mountedIn 2 (some (.object "TapeRobotics$Tape")), Cond.classLink RX4 51 "java/lang/IllegalStateException", Cond.initialized "java/lang/IllegalStateException", Cond.methodLink RX4 150 yX4_refuseUnclean, Cond.static yX4_refuseUnclean, Cond.code yX4_refuseUnclean cX4_refuseUnclean 1 none, Cond.instanceMethod yX0_wantsCleaning, Cond.initialized RX0, Cond.selects RX0 yX0_wantsCleaning yX0_wantsCleaning, Cond.code yX0_wantsCleaning cX0_wantsCleaning 1 (some .boolean), Cond.fieldLink RX0 22 "TapeRobotics$Drive" "filesSinceCleaning" "I", Cond.methodLink RX4 193 yX4_measureOrders]
def wsX4_work_r2 : List Cond := [Cond.instanceMethod yX4_measureOrders, Cond.selects RX4 yX4_measureOrders yX4_measureOrders, Cond.code yX4_measureOrders cX4_measureOrders 2 none, Cond.instanceMethod yX2_measure, Cond.initialized RX2, Cond.selects RX2 yX2_measure yX2_measure, Cond.code yX2_measure cX2_measure 8 none, Cond.fieldLink RX2 15 "TapeRobotics$Orders" "numbers" "[I", Cond.fieldLink RX2 9 "TapeRobotics$Orders" "count" "I", Cond.fieldLink RX2 19 "TapeRobotics$Orders" "legs" "[I", Cond.instanceMethod yX1_collectAt, Cond.initialized RX1, Cond.selects RX1 yX1_collectAt yX1_collectAt, Cond.code yX1_collectAt cX1_collectAt 5 (some .int), Cond.fieldLink RX1 9 "TapeRobotics$Jobs" "count" "I", Cond.fieldLink RX1 18 "TapeRobotics$Jobs" "waitsAt" "[I", Cond.methodLink RX1 37 Lib.Math.min.name, Cond.static Lib.Math.min.name, Cond.initialized "java/lang/Math", Cond.code Lib.Math.min.name Lib.Math.min.code 2 (some .int), Cond.static yX4_at, Cond.code yX4_at cX4_at 2 (some .int), Cond.static yX4_put, Cond.code yX4_put cX4_put 3 none]
def wsX4_work_r3 : List Cond := [Cond.instanceMethod yX1_fileOf, Cond.selects RX1 yX1_fileOf yX1_fileOf, Cond.code yX1_fileOf cX1_fileOf 2 (some .int), Cond.fieldLink RX1 22 "TapeRobotics$Jobs" "files" "[I", Cond.instanceMethod yX0_fileTime, Cond.selects RX0 yX0_fileTime yX0_fileTime, Cond.code yX0_fileTime cX0_fileTime 5 (some .int), Cond.instanceMethod yX3_beginOf, Cond.initialized RX3, Cond.selects RX3 yX3_beginOf yX3_beginOf, Cond.code yX3_beginOf cX3_beginOf 2 (some .int), Cond.fieldLink RX3 22 "TapeRobotics$Tape" "borders" "[I", Cond.methodLink RX0 51 yX0_wayTime, Cond.instanceMethod yX0_wayTime, Cond.selects RX0 yX0_wayTime yX0_wayTime, Cond.code yX0_wayTime cX0_wayTime 6 (some .int), Cond.methodLink RX0 34 Lib.Math.abs.name, Cond.static Lib.Math.abs.name, Cond.code Lib.Math.abs.name Lib.Math.abs.code 1 (some .int), Cond.fieldLink RX0 28 "TapeRobotics$Drive" "pace" "I", Cond.fieldLink RX0 31 "TapeRobotics$Drive" "step" "I", Cond.instanceMethod yX3_distanceAlong, Cond.selects RX3 yX3_distanceAlong yX3_distanceAlong, Cond.code yX3_distanceAlong cX3_distanceAlong 4 (some .int)]
def wsX4_work_r4 : List Cond := [Cond.fieldLink RX3 32 "TapeRobotics$Tape" "length" "I", Cond.methodLink RX3 57 Lib.Math.min.name, Cond.methodLink RX3 54 yX3_trackOf, Cond.instanceMethod yX3_trackOf, Cond.selects RX3 yX3_trackOf yX3_trackOf, Cond.code yX3_trackOf cX3_trackOf 3 (some .int), Cond.fieldLink RX3 29 "TapeRobotics$Tape" "tracks" "I", Cond.instanceMethod yX3_endOf, Cond.selects RX3 yX3_endOf yX3_endOf, Cond.code yX3_endOf cX3_endOf 2 (some .int), Cond.instanceMethod yX2_findBest, Cond.selects RX2 yX2_findBest yX2_findBest, Cond.code yX2_findBest cX2_findBest 4 none, Cond.fieldLink RX2 22 "TapeRobotics$Orders" "rests" "[I", Cond.fieldLink RX2 25 "TapeRobotics$Orders" "best" "[I", Cond.methodLink RX2 70 yX2_restBehind, Cond.instanceMethod yX2_restBehind, Cond.selects RX2 yX2_restBehind yX2_restBehind, Cond.code yX2_restBehind cX2_restBehind 4 (some .int), Cond.methodLink RX2 73 yX2_bestFollower, Cond.instanceMethod yX2_bestFollower, Cond.selects RX2 yX2_bestFollower yX2_bestFollower, Cond.code yX2_bestFollower cX2_bestFollower 7 (some .int), Cond.methodLink RX2 76 yX2_restThrough]
def wsX4_work_r5 : List Cond := [Cond.instanceMethod yX2_restThrough, Cond.selects RX2 yX2_restThrough yX2_restThrough, Cond.code yX2_restThrough cX2_restThrough 4 (some .int), Cond.methodLink RX2 66 yX2_leg, Cond.instanceMethod yX2_leg, Cond.selects RX2 yX2_leg yX2_leg, Cond.code yX2_leg cX2_leg 3 (some .int), Cond.instanceMethod yX2_bestJobAt, Cond.selects RX2 yX2_bestJobAt yX2_bestJobAt, Cond.code yX2_bestJobAt cX2_bestJobAt 2 (some .int), Cond.instanceMethod yX0_passFile, Cond.selects RX0 yX0_passFile yX0_passFile, Cond.code yX0_passFile cX0_passFile 4 (some .int), Cond.fieldLink RX0 15 "TapeRobotics$Drive" "place" "I", Cond.methodLink RX0 58 yX0_fileTime, Cond.methodLink RX0 61 yX0_spend, Cond.instanceMethod yX0_spend, Cond.selects RX0 yX0_spend yX0_spend, Cond.code yX0_spend cX0_spend 2 (some .int), Cond.fieldLink RX0 19 "TapeRobotics$Drive" "time" "I", Cond.instanceMethod yX1_finish, Cond.selects RX1 yX1_finish yX1_finish, Cond.code yX1_finish cX1_finish 2 none, Cond.fieldLink RX1 15 "TapeRobotics$Jobs" "doneCount" "I"]
def wsX4_work_r6 : List Cond := [Cond.instanceMethod yX1_deadlineOf, Cond.selects RX1 yX1_deadlineOf yX1_deadlineOf, Cond.code yX1_deadlineOf cX1_deadlineOf 2 (some .int), Cond.fieldLink RX1 25 "TapeRobotics$Jobs" "deadlines" "[I"]
def wsX4_work : List Cond := .code yX4_work cX4_work 7 (some .int) :: ((wsX4_work_r1 ++ (wsX4_work_r2 ++ (wsX4_work_r3 ++ (wsX4_work_r4 ++ (wsX4_work_r5 ++ wsX4_work_r6))))) ++ wsX40 ++ wsX20 ++ wsX00 ++ wsX30 ++ wsX10 ++ (vx_atS RX4 71 "java/lang/IndexOutOfBoundsException" ["java/lang/RuntimeException", "java/lang/Exception"]).filter goodWord ++ (vx_atS RX4 55 "java/lang/IllegalStateException" ["java/lang/RuntimeException", "java/lang/Exception"]).filter goodWord)
def wsX4_done : List Cond := .code yX4_done cX4_done 1 (some .int) :: ([.fieldLink RX4 31 "TapeRobotics" "jobs" "LTapeRobotics$Jobs;"] ++ wsX40 ++ wsX10)
def wsX4_countWithoutLabels : List Cond := .code yX4_countWithoutLabels cX4_countWithoutLabels 6 (some .int) :: ([.fieldLink RX4 11 "TapeRobotics" "tapes" "[LTapeRobotics$Tape;"] ++ wsX40 ++ wsX30)
def wsX4_lose : List Cond := .code yX4_lose cX4_lose 3 (some .int) :: ([.classLink RX4 51 "java/lang/IllegalStateException", .initialized "java/lang/IllegalStateException", .methodLink RX4 63 yX4_tapeNumbered, .instanceMethod yX4_tapeNumbered, .selects RX4 yX4_tapeNumbered yX4_tapeNumbered, .initialized RX4, .code yX4_tapeNumbered cX4_tapeNumbered 3 (some (.object "TapeRobotics$Tape")), .classLink RX4 67 "java/lang/IndexOutOfBoundsException", .initialized "java/lang/IndexOutOfBoundsException", .fieldLink RX4 11 "TapeRobotics" "tapes" "[LTapeRobotics$Tape;", .instanceMethod yX3_isInDrive, .initialized RX3, .selects RX3 yX3_isInDrive yX3_isInDrive, .code yX3_isInDrive cX3_isInDrive 1 (some .boolean), .fieldLink RX3 9 "TapeRobotics$Tape" "driveNumber" "I", .methodLink RX4 237 yX4_countWithoutLabels, .instanceMethod yX4_countWithoutLabels, .selects RX4 yX4_countWithoutLabels yX4_countWithoutLabels, .code yX4_countWithoutLabels cX4_countWithoutLabels 6 (some .int)] ++ wsX30 ++ wsX40 ++ (vx_atS RX4 55 "java/lang/IllegalStateException" ["java/lang/RuntimeException", "java/lang/Exception"]).filter goodWord ++ (vx_atS RX4 71 "java/lang/IndexOutOfBoundsException" ["java/lang/RuntimeException", "java/lang/Exception"]).filter goodWord)
def wsX4_highestSlotWithTape : List Cond := .code yX4_highestSlotWithTape cX4_highestSlotWithTape 6 (some .int) :: ([.fieldLink RX4 11 "TapeRobotics" "tapes" "[LTapeRobotics$Tape;", .methodLink RX4 257 Lib.Math.max.name, .static Lib.Math.max.name, .initialized "java/lang/Math", .code Lib.Math.max.name Lib.Math.max.code 2 (some .int), .instanceMethod yX3_isInDrive, .initialized RX3, .selects RX3 yX3_isInDrive yX3_isInDrive, .code yX3_isInDrive cX3_isInDrive 1 (some .boolean), .fieldLink RX3 9 "TapeRobotics$Tape" "driveNumber" "I"] ++ wsX40 ++ wsX30)
def wsX4_inventory : List Cond := .code yX4_inventory cX4_inventory 6 (some .int) :: ([.fieldLink RX4 11 "TapeRobotics" "tapes" "[LTapeRobotics$Tape;", .methodLink RX4 237 yX4_countWithoutLabels, .instanceMethod yX4_countWithoutLabels, .selects RX4 yX4_countWithoutLabels yX4_countWithoutLabels, .initialized RX4, .code yX4_countWithoutLabels cX4_countWithoutLabels 6 (some .int), .methodLink RX4 240 yX4_highestSlotWithTape, .instanceMethod yX4_highestSlotWithTape, .selects RX4 yX4_highestSlotWithTape yX4_highestSlotWithTape, .code yX4_highestSlotWithTape cX4_highestSlotWithTape 6 (some .int), .methodLink RX4 257 Lib.Math.max.name, .static Lib.Math.max.name, .initialized "java/lang/Math", .code Lib.Math.max.name Lib.Math.max.code 2 (some .int), .instanceMethod yX3_isInDrive, .initialized RX3, .selects RX3 yX3_isInDrive yX3_isInDrive, .code yX3_isInDrive cX3_isInDrive 1 (some .boolean), .fieldLink RX3 9 "TapeRobotics$Tape" "driveNumber" "I"] ++ wsX40 ++ wsX30)
def wsX5_init_r1 : List Cond := [Cond.methodLink RX5 1 objectInit, Cond.instanceMethod objectInit, Cond.code objectInit ⟨#[0xb1]⟩ 1 none, Cond.arrayClass .int, Cond.fieldLink RX5 7 "TapeRoboticsModel" "tracks" "[I", Cond.fieldLink RX5 13 "TapeRoboticsModel" "length" "[I", Cond.fieldLink RX5 16 "TapeRoboticsModel" "slot" "[I", Cond.fieldLink RX5 19 "TapeRoboticsModel" "mounted" "[I", Cond.arrayClass .boolean, Cond.fieldLink RX5 22 "TapeRoboticsModel" "lost" "[Z", Cond.fieldLink RX5 26 "TapeRoboticsModel" "files" "[I", Cond.fieldLink RX5 29 "TapeRoboticsModel" "start" "[I", Cond.fieldLink RX5 32 "TapeRoboticsModel" "blocks" "[I", Cond.fieldLink RX5 35 "TapeRoboticsModel" "make" "[I", Cond.fieldLink RX5 38 "TapeRoboticsModel" "clock" "[I", Cond.fieldLink RX5 41 "TapeRoboticsModel" "count" "[I", Cond.fieldLink RX5 44 "TapeRoboticsModel" "held" "[I", Cond.fieldLink RX5 47 "TapeRoboticsModel" "stand" "[I", Cond.fieldLink RX5 50 "TapeRoboticsModel" "jobTape" "[I", Cond.fieldLink RX5 53 "TapeRoboticsModel" "jobFile" "[I", Cond.fieldLink RX5 56 "TapeRoboticsModel" "deadline" "[I", Cond.fieldLink RX5 59 "TapeRoboticsModel" "finished" "[Z", Cond.fieldLink RX5 62 "TapeRoboticsModel" "list" "[I", Cond.fieldLink RX5 65 "TapeRoboticsModel" "order" "[I"]
def wsX5_init_r2 : List Cond := [Cond.fieldLink RX5 68 "TapeRoboticsModel" "least" "[I", Cond.fieldLink RX5 71 "TapeRoboticsModel" "row" "[I"]
def wsX5_init : List Cond := .code yX5_init cX5_init 1 none :: ((wsX5_init_r1 ++ wsX5_init_r2) ++ wsX50)
def wsX5_thrown : List Cond := .code yX5_thrown cX5_thrown 1 (some .int) :: ([.fieldLink RX5 74 "TapeRoboticsModel" "thrown" "I"] ++ wsX50)
def wsX5_may : List Cond := .code yX5_may cX5_may 2 (some .boolean) :: ([.fieldLink RX5 74 "TapeRoboticsModel" "thrown" "I"] ++ wsX50)
def wsX5_mayBoth : List Cond := .code yX5_mayBoth cX5_mayBoth 3 (some .boolean) :: ([.fieldLink RX5 74 "TapeRoboticsModel" "thrown" "I"] ++ wsX50)
def wsX5_mayAll : List Cond := .code yX5_mayAll cX5_mayAll 4 (some .boolean) :: ([.fieldLink RX5 74 "TapeRoboticsModel" "thrown" "I"] ++ wsX50)
def wsX5_isIn : List Cond := .code yX5_isIn cX5_isIn 3 (some .boolean) :: ([])
def wsX5_size : List Cond := .code yX5_size cX5_size 1 (some .int) :: ([])
def wsX5_isTape : List Cond := .code yX5_isTape cX5_isTape 2 (some .boolean) :: ([.fieldLink RX5 78 "TapeRoboticsModel" "tapes" "I", .methodLink RX5 81 yX5_isIn, .static yX5_isIn, .initialized RX5, .code yX5_isIn cX5_isIn 3 (some .boolean)] ++ wsX50)
def wsX5_isDrive : List Cond := .code yX5_isDrive cX5_isDrive 2 (some .boolean) :: ([.fieldLink RX5 85 "TapeRoboticsModel" "drives" "I", .methodLink RX5 81 yX5_isIn, .static yX5_isIn, .initialized RX5, .code yX5_isIn cX5_isIn 3 (some .boolean)] ++ wsX50)
def wsX5_isFile : List Cond := .code yX5_isFile cX5_isFile 3 (some .boolean) :: ([.fieldLink RX5 26 "TapeRoboticsModel" "files" "[I", .methodLink RX5 88 yX5_isTape, .instanceMethod yX5_isTape, .selects RX5 yX5_isTape yX5_isTape, .initialized RX5, .code yX5_isTape cX5_isTape 2 (some .boolean), .fieldLink RX5 78 "TapeRoboticsModel" "tapes" "I", .methodLink RX5 81 yX5_isIn, .static yX5_isIn, .code yX5_isIn cX5_isIn 3 (some .boolean)] ++ wsX50)
def wsX5_hasTape : List Cond := .code yX5_hasTape cX5_hasTape 2 (some .boolean) :: ([.fieldLink RX5 44 "TapeRoboticsModel" "held" "[I", .methodLink RX5 92 yX5_isDrive, .instanceMethod yX5_isDrive, .selects RX5 yX5_isDrive yX5_isDrive, .initialized RX5, .code yX5_isDrive cX5_isDrive 2 (some .boolean), .fieldLink RX5 85 "TapeRoboticsModel" "drives" "I", .methodLink RX5 81 yX5_isIn, .static yX5_isIn, .code yX5_isIn cX5_isIn 3 (some .boolean)] ++ wsX50)
def wsX5_isClean : List Cond := .code yX5_isClean cX5_isClean 2 (some .boolean) :: ([.fieldLink RX5 41 "TapeRoboticsModel" "count" "[I"] ++ wsX50)
def wsX5_isFree : List Cond := .code yX5_isFree cX5_isFree 3 (some .boolean) :: ([.fieldLink RX5 78 "TapeRoboticsModel" "tapes" "I", .fieldLink RX5 16 "TapeRoboticsModel" "slot" "[I"] ++ wsX50)
def wsX5_tape : List Cond := .code yX5_tape cX5_tape 4 (some .int) :: ([.fieldLink RX5 78 "TapeRoboticsModel" "tapes" "I", .fieldLink RX5 7 "TapeRoboticsModel" "tracks" "[I", .fieldLink RX5 13 "TapeRoboticsModel" "length" "[I", .fieldLink RX5 16 "TapeRoboticsModel" "slot" "[I", .fieldLink RX5 19 "TapeRoboticsModel" "mounted" "[I", .methodLink RX5 81 yX5_isIn, .static yX5_isIn, .initialized RX5, .code yX5_isIn cX5_isIn 3 (some .boolean), .methodLink RX5 95 yX5_mayBoth, .instanceMethod yX5_mayBoth, .selects RX5 yX5_mayBoth yX5_mayBoth, .code yX5_mayBoth cX5_mayBoth 3 (some .boolean), .fieldLink RX5 74 "TapeRoboticsModel" "thrown" "I", .methodLink RX5 99 yX5_isFree, .instanceMethod yX5_isFree, .selects RX5 yX5_isFree yX5_isFree, .code yX5_isFree cX5_isFree 3 (some .boolean)] ++ wsX50)
def wsX5_carry : List Cond := .code yX5_carry cX5_carry 5 (some .int) :: ([.fieldLink RX5 19 "TapeRoboticsModel" "mounted" "[I", .fieldLink RX5 16 "TapeRoboticsModel" "slot" "[I", .methodLink RX5 88 yX5_isTape, .instanceMethod yX5_isTape, .selects RX5 yX5_isTape yX5_isTape, .initialized RX5, .code yX5_isTape cX5_isTape 2 (some .boolean), .fieldLink RX5 78 "TapeRoboticsModel" "tapes" "I", .methodLink RX5 81 yX5_isIn, .static yX5_isIn, .code yX5_isIn cX5_isIn 3 (some .boolean), .methodLink RX5 99 yX5_isFree, .instanceMethod yX5_isFree, .selects RX5 yX5_isFree yX5_isFree, .code yX5_isFree cX5_isFree 3 (some .boolean), .methodLink RX5 95 yX5_mayBoth, .instanceMethod yX5_mayBoth, .selects RX5 yX5_mayBoth yX5_mayBoth, .code yX5_mayBoth cX5_mayBoth 3 (some .boolean), .fieldLink RX5 74 "TapeRoboticsModel" "thrown" "I"] ++ wsX50)
def wsX5_placeOf : List Cond := .code yX5_placeOf cX5_placeOf 2 (some .int) :: ([.fieldLink RX5 19 "TapeRoboticsModel" "mounted" "[I", .fieldLink RX5 16 "TapeRoboticsModel" "slot" "[I", .methodLink RX5 88 yX5_isTape, .instanceMethod yX5_isTape, .selects RX5 yX5_isTape yX5_isTape, .initialized RX5, .code yX5_isTape cX5_isTape 2 (some .boolean), .fieldLink RX5 78 "TapeRoboticsModel" "tapes" "I", .methodLink RX5 81 yX5_isIn, .static yX5_isIn, .code yX5_isIn cX5_isIn 3 (some .boolean), .methodLink RX5 102 yX5_may, .instanceMethod yX5_may, .selects RX5 yX5_may yX5_may, .code yX5_may cX5_may 2 (some .boolean), .fieldLink RX5 74 "TapeRoboticsModel" "thrown" "I"] ++ wsX50)
def wsX5_files : List Cond := .code yX5_files cX5_files 2 (some .int) :: ([.fieldLink RX5 26 "TapeRoboticsModel" "files" "[I", .methodLink RX5 88 yX5_isTape, .instanceMethod yX5_isTape, .selects RX5 yX5_isTape yX5_isTape, .initialized RX5, .code yX5_isTape cX5_isTape 2 (some .boolean), .fieldLink RX5 78 "TapeRoboticsModel" "tapes" "I", .methodLink RX5 81 yX5_isIn, .static yX5_isIn, .code yX5_isIn cX5_isIn 3 (some .boolean), .methodLink RX5 102 yX5_may, .instanceMethod yX5_may, .selects RX5 yX5_may yX5_may, .code yX5_may cX5_may 2 (some .boolean), .fieldLink RX5 74 "TapeRoboticsModel" "thrown" "I"] ++ wsX50)
def wsX5_start : List Cond := .code yX5_start cX5_start 3 (some .int) :: ([.fieldLink RX5 29 "TapeRoboticsModel" "start" "[I", .methodLink RX5 106 yX5_isFile, .instanceMethod yX5_isFile, .selects RX5 yX5_isFile yX5_isFile, .initialized RX5, .code yX5_isFile cX5_isFile 3 (some .boolean), .fieldLink RX5 26 "TapeRoboticsModel" "files" "[I", .methodLink RX5 88 yX5_isTape, .instanceMethod yX5_isTape, .selects RX5 yX5_isTape yX5_isTape, .code yX5_isTape cX5_isTape 2 (some .boolean), .fieldLink RX5 78 "TapeRoboticsModel" "tapes" "I", .methodLink RX5 81 yX5_isIn, .static yX5_isIn, .code yX5_isIn cX5_isIn 3 (some .boolean), .methodLink RX5 102 yX5_may, .instanceMethod yX5_may, .selects RX5 yX5_may yX5_may, .code yX5_may cX5_may 2 (some .boolean), .fieldLink RX5 74 "TapeRoboticsModel" "thrown" "I"] ++ wsX50)
def wsX5_trackOf : List Cond := .code yX5_trackOf cX5_trackOf 3 (some .int) :: ([.fieldLink RX5 13 "TapeRoboticsModel" "length" "[I"] ++ wsX50)
def wsX5_alongOf : List Cond := .code yX5_alongOf cX5_alongOf 4 (some .int) :: ([.fieldLink RX5 13 "TapeRoboticsModel" "length" "[I", .methodLink RX5 110 yX5_trackOf, .instanceMethod yX5_trackOf, .selects RX5 yX5_trackOf yX5_trackOf, .initialized RX5, .code yX5_trackOf cX5_trackOf 3 (some .int)] ++ wsX50)
def wsX5_along : List Cond := .code yX5_along cX5_along 3 (some .int) :: ([.fieldLink RX5 7 "TapeRoboticsModel" "tracks" "[I", .fieldLink RX5 13 "TapeRoboticsModel" "length" "[I", .methodLink RX5 88 yX5_isTape, .instanceMethod yX5_isTape, .selects RX5 yX5_isTape yX5_isTape, .initialized RX5, .code yX5_isTape cX5_isTape 2 (some .boolean), .fieldLink RX5 78 "TapeRoboticsModel" "tapes" "I", .methodLink RX5 81 yX5_isIn, .static yX5_isIn, .code yX5_isIn cX5_isIn 3 (some .boolean), .methodLink RX5 102 yX5_may, .instanceMethod yX5_may, .selects RX5 yX5_may yX5_may, .code yX5_may cX5_may 2 (some .boolean), .fieldLink RX5 74 "TapeRoboticsModel" "thrown" "I", .methodLink RX5 114 yX5_alongOf, .instanceMethod yX5_alongOf, .selects RX5 yX5_alongOf yX5_alongOf, .code yX5_alongOf cX5_alongOf 4 (some .int), .methodLink RX5 110 yX5_trackOf, .instanceMethod yX5_trackOf, .selects RX5 yX5_trackOf yX5_trackOf, .code yX5_trackOf cX5_trackOf 3 (some .int)] ++ wsX50)
def wsX5_drive : List Cond := .code yX5_drive cX5_drive 2 (some .int) :: ([.fieldLink RX5 85 "TapeRoboticsModel" "drives" "I", .fieldLink RX5 35 "TapeRoboticsModel" "make" "[I", .fieldLink RX5 44 "TapeRoboticsModel" "held" "[I", .methodLink RX5 81 yX5_isIn, .static yX5_isIn, .initialized RX5, .code yX5_isIn cX5_isIn 3 (some .boolean), .methodLink RX5 95 yX5_mayBoth, .instanceMethod yX5_mayBoth, .selects RX5 yX5_mayBoth yX5_mayBoth, .code yX5_mayBoth cX5_mayBoth 3 (some .boolean), .fieldLink RX5 74 "TapeRoboticsModel" "thrown" "I"] ++ wsX50)
def wsX5_way : List Cond := .code yX5_way cX5_way 10 (some .int) :: ([.fieldLink RX5 44 "TapeRoboticsModel" "held" "[I", .fieldLink RX5 7 "TapeRoboticsModel" "tracks" "[I", .fieldLink RX5 13 "TapeRoboticsModel" "length" "[I", .fieldLink RX5 35 "TapeRoboticsModel" "make" "[I", .methodLink RX5 114 yX5_alongOf, .instanceMethod yX5_alongOf, .selects RX5 yX5_alongOf yX5_alongOf, .initialized RX5, .code yX5_alongOf cX5_alongOf 4 (some .int), .methodLink RX5 110 yX5_trackOf, .instanceMethod yX5_trackOf, .selects RX5 yX5_trackOf yX5_trackOf, .code yX5_trackOf cX5_trackOf 3 (some .int), .methodLink RX5 117 yX5_size, .static yX5_size, .code yX5_size cX5_size 1 (some .int)] ++ wsX50)
def wsX5_robot : List Cond := .code yX5_robot cX5_robot 3 (some .int) :: ([.fieldLink RX5 16 "TapeRoboticsModel" "slot" "[I", .methodLink RX5 117 yX5_size, .static yX5_size, .initialized RX5, .code yX5_size cX5_size 1 (some .int)] ++ wsX50)
def wsX5_mount_r1 : List Cond := [Cond.fieldLink RX5 44 "TapeRoboticsModel" "held" "[I", Cond.fieldLink RX5 19 "TapeRoboticsModel" "mounted" "[I", Cond.fieldLink RX5 22 "TapeRoboticsModel" "lost" "[Z", Cond.fieldLink RX5 47 "TapeRoboticsModel" "stand" "[I", Cond.fieldLink RX5 38 "TapeRoboticsModel" "clock" "[I", Cond.methodLink RX5 92 yX5_isDrive, Cond.instanceMethod yX5_isDrive, Cond.selects RX5 yX5_isDrive yX5_isDrive, Cond.initialized RX5, Cond.code yX5_isDrive cX5_isDrive 2 (some .boolean), Cond.fieldLink RX5 85 "TapeRoboticsModel" "drives" "I", Cond.methodLink RX5 81 yX5_isIn, Cond.static yX5_isIn, Cond.code yX5_isIn cX5_isIn 3 (some .boolean), Cond.methodLink RX5 88 yX5_isTape, Cond.instanceMethod yX5_isTape, Cond.selects RX5 yX5_isTape yX5_isTape, Cond.code yX5_isTape cX5_isTape 2 (some .boolean), Cond.fieldLink RX5 78 "TapeRoboticsModel" "tapes" "I", Cond.methodLink RX5 95 yX5_mayBoth, Cond.instanceMethod yX5_mayBoth, Cond.selects RX5 yX5_mayBoth yX5_mayBoth, Cond.code yX5_mayBoth cX5_mayBoth 3 (some .boolean), Cond.fieldLink RX5 74 "TapeRoboticsModel" "thrown" "I"]
def wsX5_mount_r2 : List Cond := [Cond.methodLink RX5 121 yX5_robot, Cond.instanceMethod yX5_robot, Cond.selects RX5 yX5_robot yX5_robot, Cond.code yX5_robot cX5_robot 3 (some .int), Cond.fieldLink RX5 16 "TapeRoboticsModel" "slot" "[I", Cond.methodLink RX5 117 yX5_size, Cond.static yX5_size, Cond.code yX5_size cX5_size 1 (some .int)]
def wsX5_mount : List Cond := .code yX5_mount cX5_mount 5 (some .int) :: ((wsX5_mount_r1 ++ wsX5_mount_r2) ++ wsX50)
def wsX5_unmount_r1 : List Cond := [Cond.fieldLink RX5 47 "TapeRoboticsModel" "stand" "[I", Cond.fieldLink RX5 44 "TapeRoboticsModel" "held" "[I", Cond.fieldLink RX5 38 "TapeRoboticsModel" "clock" "[I", Cond.fieldLink RX5 19 "TapeRoboticsModel" "mounted" "[I", Cond.methodLink RX5 92 yX5_isDrive, Cond.instanceMethod yX5_isDrive, Cond.selects RX5 yX5_isDrive yX5_isDrive, Cond.initialized RX5, Cond.code yX5_isDrive cX5_isDrive 2 (some .boolean), Cond.fieldLink RX5 85 "TapeRoboticsModel" "drives" "I", Cond.methodLink RX5 81 yX5_isIn, Cond.static yX5_isIn, Cond.code yX5_isIn cX5_isIn 3 (some .boolean), Cond.methodLink RX5 124 yX5_hasTape, Cond.instanceMethod yX5_hasTape, Cond.selects RX5 yX5_hasTape yX5_hasTape, Cond.code yX5_hasTape cX5_hasTape 2 (some .boolean), Cond.methodLink RX5 95 yX5_mayBoth, Cond.instanceMethod yX5_mayBoth, Cond.selects RX5 yX5_mayBoth yX5_mayBoth, Cond.code yX5_mayBoth cX5_mayBoth 3 (some .boolean), Cond.fieldLink RX5 74 "TapeRoboticsModel" "thrown" "I", Cond.methodLink RX5 127 yX5_way, Cond.instanceMethod yX5_way]
def wsX5_unmount_r2 : List Cond := [Cond.selects RX5 yX5_way yX5_way, Cond.code yX5_way cX5_way 10 (some .int), Cond.fieldLink RX5 7 "TapeRoboticsModel" "tracks" "[I", Cond.fieldLink RX5 13 "TapeRoboticsModel" "length" "[I", Cond.fieldLink RX5 35 "TapeRoboticsModel" "make" "[I", Cond.methodLink RX5 114 yX5_alongOf, Cond.instanceMethod yX5_alongOf, Cond.selects RX5 yX5_alongOf yX5_alongOf, Cond.code yX5_alongOf cX5_alongOf 4 (some .int), Cond.methodLink RX5 110 yX5_trackOf, Cond.instanceMethod yX5_trackOf, Cond.selects RX5 yX5_trackOf yX5_trackOf, Cond.code yX5_trackOf cX5_trackOf 3 (some .int), Cond.methodLink RX5 117 yX5_size, Cond.static yX5_size, Cond.code yX5_size cX5_size 1 (some .int), Cond.methodLink RX5 121 yX5_robot, Cond.instanceMethod yX5_robot, Cond.selects RX5 yX5_robot yX5_robot, Cond.code yX5_robot cX5_robot 3 (some .int), Cond.fieldLink RX5 16 "TapeRoboticsModel" "slot" "[I"]
def wsX5_unmount : List Cond := .code yX5_unmount cX5_unmount 3 (some .int) :: ((wsX5_unmount_r1 ++ wsX5_unmount_r2) ++ wsX50)
def wsX5_run : List Cond := .code yX5_run cX5_run 5 (some .int) :: ([.fieldLink RX5 47 "TapeRoboticsModel" "stand" "[I", .fieldLink RX5 38 "TapeRoboticsModel" "clock" "[I", .fieldLink RX5 41 "TapeRoboticsModel" "count" "[I", .methodLink RX5 127 yX5_way, .instanceMethod yX5_way, .selects RX5 yX5_way yX5_way, .initialized RX5, .code yX5_way cX5_way 10 (some .int), .fieldLink RX5 44 "TapeRoboticsModel" "held" "[I", .fieldLink RX5 7 "TapeRoboticsModel" "tracks" "[I", .fieldLink RX5 13 "TapeRoboticsModel" "length" "[I", .fieldLink RX5 35 "TapeRoboticsModel" "make" "[I", .methodLink RX5 114 yX5_alongOf, .instanceMethod yX5_alongOf, .selects RX5 yX5_alongOf yX5_alongOf, .code yX5_alongOf cX5_alongOf 4 (some .int), .methodLink RX5 110 yX5_trackOf, .instanceMethod yX5_trackOf, .selects RX5 yX5_trackOf yX5_trackOf, .code yX5_trackOf cX5_trackOf 3 (some .int), .methodLink RX5 117 yX5_size, .static yX5_size, .code yX5_size cX5_size 1 (some .int)] ++ wsX50)
def wsX5_behind : List Cond := .code yX5_behind cX5_behind 3 (some .int) :: ([.fieldLink RX5 26 "TapeRoboticsModel" "files" "[I", .fieldLink RX5 29 "TapeRoboticsModel" "start" "[I", .fieldLink RX5 32 "TapeRoboticsModel" "blocks" "[I"] ++ wsX50)
def wsX5_write_r1 : List Cond := [Cond.fieldLink RX5 44 "TapeRoboticsModel" "held" "[I", Cond.fieldLink RX5 26 "TapeRoboticsModel" "files" "[I", Cond.fieldLink RX5 7 "TapeRoboticsModel" "tracks" "[I", Cond.fieldLink RX5 13 "TapeRoboticsModel" "length" "[I", Cond.fieldLink RX5 29 "TapeRoboticsModel" "start" "[I", Cond.fieldLink RX5 32 "TapeRoboticsModel" "blocks" "[I", Cond.methodLink RX5 124 yX5_hasTape, Cond.instanceMethod yX5_hasTape, Cond.selects RX5 yX5_hasTape yX5_hasTape, Cond.initialized RX5, Cond.code yX5_hasTape cX5_hasTape 2 (some .boolean), Cond.methodLink RX5 92 yX5_isDrive, Cond.instanceMethod yX5_isDrive, Cond.selects RX5 yX5_isDrive yX5_isDrive, Cond.code yX5_isDrive cX5_isDrive 2 (some .boolean), Cond.fieldLink RX5 85 "TapeRoboticsModel" "drives" "I", Cond.methodLink RX5 81 yX5_isIn, Cond.static yX5_isIn, Cond.code yX5_isIn cX5_isIn 3 (some .boolean), Cond.methodLink RX5 131 yX5_isClean, Cond.instanceMethod yX5_isClean, Cond.selects RX5 yX5_isClean yX5_isClean, Cond.code yX5_isClean cX5_isClean 2 (some .boolean), Cond.fieldLink RX5 41 "TapeRoboticsModel" "count" "[I"]
def wsX5_write_r2 : List Cond := [Cond.methodLink RX5 134 yX5_behind, Cond.instanceMethod yX5_behind, Cond.selects RX5 yX5_behind yX5_behind, Cond.code yX5_behind cX5_behind 3 (some .int), Cond.methodLink RX5 137 yX5_mayAll, Cond.instanceMethod yX5_mayAll, Cond.selects RX5 yX5_mayAll yX5_mayAll, Cond.code yX5_mayAll cX5_mayAll 4 (some .boolean), Cond.fieldLink RX5 74 "TapeRoboticsModel" "thrown" "I", Cond.methodLink RX5 141 yX5_run, Cond.instanceMethod yX5_run, Cond.selects RX5 yX5_run yX5_run, Cond.code yX5_run cX5_run 5 (some .int), Cond.fieldLink RX5 47 "TapeRoboticsModel" "stand" "[I", Cond.fieldLink RX5 38 "TapeRoboticsModel" "clock" "[I", Cond.methodLink RX5 127 yX5_way, Cond.instanceMethod yX5_way, Cond.selects RX5 yX5_way yX5_way, Cond.code yX5_way cX5_way 10 (some .int), Cond.fieldLink RX5 35 "TapeRoboticsModel" "make" "[I", Cond.methodLink RX5 114 yX5_alongOf, Cond.instanceMethod yX5_alongOf, Cond.selects RX5 yX5_alongOf yX5_alongOf, Cond.code yX5_alongOf cX5_alongOf 4 (some .int)]
def wsX5_write_r3 : List Cond := [Cond.methodLink RX5 110 yX5_trackOf, Cond.instanceMethod yX5_trackOf, Cond.selects RX5 yX5_trackOf yX5_trackOf, Cond.code yX5_trackOf cX5_trackOf 3 (some .int), Cond.methodLink RX5 117 yX5_size, Cond.static yX5_size, Cond.code yX5_size cX5_size 1 (some .int)]
def wsX5_write : List Cond := .code yX5_write cX5_write 7 (some .int) :: ((wsX5_write_r1 ++ (wsX5_write_r2 ++ wsX5_write_r3)) ++ wsX50)
def wsX5_read_r1 : List Cond := [Cond.fieldLink RX5 44 "TapeRoboticsModel" "held" "[I", Cond.fieldLink RX5 29 "TapeRoboticsModel" "start" "[I", Cond.fieldLink RX5 32 "TapeRoboticsModel" "blocks" "[I", Cond.methodLink RX5 124 yX5_hasTape, Cond.instanceMethod yX5_hasTape, Cond.selects RX5 yX5_hasTape yX5_hasTape, Cond.initialized RX5, Cond.code yX5_hasTape cX5_hasTape 2 (some .boolean), Cond.methodLink RX5 92 yX5_isDrive, Cond.instanceMethod yX5_isDrive, Cond.selects RX5 yX5_isDrive yX5_isDrive, Cond.code yX5_isDrive cX5_isDrive 2 (some .boolean), Cond.fieldLink RX5 85 "TapeRoboticsModel" "drives" "I", Cond.methodLink RX5 81 yX5_isIn, Cond.static yX5_isIn, Cond.code yX5_isIn cX5_isIn 3 (some .boolean), Cond.methodLink RX5 106 yX5_isFile, Cond.instanceMethod yX5_isFile, Cond.selects RX5 yX5_isFile yX5_isFile, Cond.code yX5_isFile cX5_isFile 3 (some .boolean), Cond.fieldLink RX5 26 "TapeRoboticsModel" "files" "[I", Cond.methodLink RX5 88 yX5_isTape, Cond.instanceMethod yX5_isTape, Cond.selects RX5 yX5_isTape yX5_isTape]
def wsX5_read_r2 : List Cond := [Cond.code yX5_isTape cX5_isTape 2 (some .boolean), Cond.fieldLink RX5 78 "TapeRoboticsModel" "tapes" "I", Cond.methodLink RX5 131 yX5_isClean, Cond.instanceMethod yX5_isClean, Cond.selects RX5 yX5_isClean yX5_isClean, Cond.code yX5_isClean cX5_isClean 2 (some .boolean), Cond.fieldLink RX5 41 "TapeRoboticsModel" "count" "[I", Cond.methodLink RX5 95 yX5_mayBoth, Cond.instanceMethod yX5_mayBoth, Cond.selects RX5 yX5_mayBoth yX5_mayBoth, Cond.code yX5_mayBoth cX5_mayBoth 3 (some .boolean), Cond.fieldLink RX5 74 "TapeRoboticsModel" "thrown" "I", Cond.methodLink RX5 141 yX5_run, Cond.instanceMethod yX5_run, Cond.selects RX5 yX5_run yX5_run, Cond.code yX5_run cX5_run 5 (some .int), Cond.fieldLink RX5 47 "TapeRoboticsModel" "stand" "[I", Cond.fieldLink RX5 38 "TapeRoboticsModel" "clock" "[I", Cond.methodLink RX5 127 yX5_way, Cond.instanceMethod yX5_way, Cond.selects RX5 yX5_way yX5_way, Cond.code yX5_way cX5_way 10 (some .int), Cond.fieldLink RX5 7 "TapeRoboticsModel" "tracks" "[I", Cond.fieldLink RX5 13 "TapeRoboticsModel" "length" "[I"]
def wsX5_read_r3 : List Cond := [Cond.fieldLink RX5 35 "TapeRoboticsModel" "make" "[I", Cond.methodLink RX5 114 yX5_alongOf, Cond.instanceMethod yX5_alongOf, Cond.selects RX5 yX5_alongOf yX5_alongOf, Cond.code yX5_alongOf cX5_alongOf 4 (some .int), Cond.methodLink RX5 110 yX5_trackOf, Cond.instanceMethod yX5_trackOf, Cond.selects RX5 yX5_trackOf yX5_trackOf, Cond.code yX5_trackOf cX5_trackOf 3 (some .int), Cond.methodLink RX5 117 yX5_size, Cond.static yX5_size, Cond.code yX5_size cX5_size 1 (some .int)]
def wsX5_read : List Cond := .code yX5_read cX5_read 5 (some .int) :: ((wsX5_read_r1 ++ (wsX5_read_r2 ++ wsX5_read_r3)) ++ wsX50)
def wsX5_clean : List Cond := .code yX5_clean cX5_clean 3 (some .int) :: ([.fieldLink RX5 41 "TapeRoboticsModel" "count" "[I", .fieldLink RX5 38 "TapeRoboticsModel" "clock" "[I", .methodLink RX5 92 yX5_isDrive, .instanceMethod yX5_isDrive, .selects RX5 yX5_isDrive yX5_isDrive, .initialized RX5, .code yX5_isDrive cX5_isDrive 2 (some .boolean), .fieldLink RX5 85 "TapeRoboticsModel" "drives" "I", .methodLink RX5 81 yX5_isIn, .static yX5_isIn, .code yX5_isIn cX5_isIn 3 (some .boolean), .methodLink RX5 124 yX5_hasTape, .instanceMethod yX5_hasTape, .selects RX5 yX5_hasTape yX5_hasTape, .code yX5_hasTape cX5_hasTape 2 (some .boolean), .fieldLink RX5 44 "TapeRoboticsModel" "held" "[I", .methodLink RX5 95 yX5_mayBoth, .instanceMethod yX5_mayBoth, .selects RX5 yX5_mayBoth yX5_mayBoth, .code yX5_mayBoth cX5_mayBoth 3 (some .boolean), .fieldLink RX5 74 "TapeRoboticsModel" "thrown" "I"] ++ wsX50)
def wsX5_clock : List Cond := .code yX5_clock cX5_clock 2 (some .int) :: ([.fieldLink RX5 38 "TapeRoboticsModel" "clock" "[I", .methodLink RX5 92 yX5_isDrive, .instanceMethod yX5_isDrive, .selects RX5 yX5_isDrive yX5_isDrive, .initialized RX5, .code yX5_isDrive cX5_isDrive 2 (some .boolean), .fieldLink RX5 85 "TapeRoboticsModel" "drives" "I", .methodLink RX5 81 yX5_isIn, .static yX5_isIn, .code yX5_isIn cX5_isIn 3 (some .boolean), .methodLink RX5 102 yX5_may, .instanceMethod yX5_may, .selects RX5 yX5_may yX5_may, .code yX5_may cX5_may 2 (some .boolean), .fieldLink RX5 74 "TapeRoboticsModel" "thrown" "I"] ++ wsX50)
def wsX5_stands : List Cond := .code yX5_stands cX5_stands 2 (some .int) :: ([.fieldLink RX5 44 "TapeRoboticsModel" "held" "[I", .fieldLink RX5 47 "TapeRoboticsModel" "stand" "[I", .methodLink RX5 92 yX5_isDrive, .instanceMethod yX5_isDrive, .selects RX5 yX5_isDrive yX5_isDrive, .initialized RX5, .code yX5_isDrive cX5_isDrive 2 (some .boolean), .fieldLink RX5 85 "TapeRoboticsModel" "drives" "I", .methodLink RX5 81 yX5_isIn, .static yX5_isIn, .code yX5_isIn cX5_isIn 3 (some .boolean), .methodLink RX5 102 yX5_may, .instanceMethod yX5_may, .selects RX5 yX5_may yX5_may, .code yX5_may cX5_may 2 (some .boolean), .fieldLink RX5 74 "TapeRoboticsModel" "thrown" "I"] ++ wsX50)
def wsX5_waits : List Cond := .code yX5_waits cX5_waits 3 (some .boolean) :: ([.fieldLink RX5 59 "TapeRoboticsModel" "finished" "[Z", .fieldLink RX5 50 "TapeRoboticsModel" "jobTape" "[I"] ++ wsX50)
def wsX5_waitingAt : List Cond := .code yX5_waitingAt cX5_waitingAt 4 (some .int) :: ([.fieldLink RX5 144 "TapeRoboticsModel" "jobs" "I", .methodLink RX5 147 yX5_waits, .instanceMethod yX5_waits, .selects RX5 yX5_waits yX5_waits, .initialized RX5, .code yX5_waits cX5_waits 3 (some .boolean), .fieldLink RX5 59 "TapeRoboticsModel" "finished" "[Z", .fieldLink RX5 50 "TapeRoboticsModel" "jobTape" "[I"] ++ wsX50)
def wsX5_job_r1 : List Cond := [Cond.constant RX5 150 (99999), Cond.fieldLink RX5 144 "TapeRoboticsModel" "jobs" "I", Cond.fieldLink RX5 50 "TapeRoboticsModel" "jobTape" "[I", Cond.fieldLink RX5 53 "TapeRoboticsModel" "jobFile" "[I", Cond.fieldLink RX5 56 "TapeRoboticsModel" "deadline" "[I", Cond.methodLink RX5 106 yX5_isFile, Cond.instanceMethod yX5_isFile, Cond.selects RX5 yX5_isFile yX5_isFile, Cond.initialized RX5, Cond.code yX5_isFile cX5_isFile 3 (some .boolean), Cond.fieldLink RX5 26 "TapeRoboticsModel" "files" "[I", Cond.methodLink RX5 88 yX5_isTape, Cond.instanceMethod yX5_isTape, Cond.selects RX5 yX5_isTape yX5_isTape, Cond.code yX5_isTape cX5_isTape 2 (some .boolean), Cond.fieldLink RX5 78 "TapeRoboticsModel" "tapes" "I", Cond.methodLink RX5 81 yX5_isIn, Cond.static yX5_isIn, Cond.code yX5_isIn cX5_isIn 3 (some .boolean), Cond.methodLink RX5 151 yX5_waitingAt, Cond.instanceMethod yX5_waitingAt, Cond.selects RX5 yX5_waitingAt yX5_waitingAt, Cond.code yX5_waitingAt cX5_waitingAt 4 (some .int), Cond.methodLink RX5 147 yX5_waits]
def wsX5_job_r2 : List Cond := [Cond.instanceMethod yX5_waits, Cond.selects RX5 yX5_waits yX5_waits, Cond.code yX5_waits cX5_waits 3 (some .boolean), Cond.fieldLink RX5 59 "TapeRoboticsModel" "finished" "[Z", Cond.methodLink RX5 137 yX5_mayAll, Cond.instanceMethod yX5_mayAll, Cond.selects RX5 yX5_mayAll yX5_mayAll, Cond.code yX5_mayAll cX5_mayAll 4 (some .boolean), Cond.fieldLink RX5 74 "TapeRoboticsModel" "thrown" "I"]
def wsX5_job : List Cond := .code yX5_job cX5_job 5 (some .int) :: ((wsX5_job_r1 ++ wsX5_job_r2) ++ wsX50)
def wsX5_waiting_r1 : List Cond := [Cond.methodLink RX5 88 yX5_isTape, Cond.instanceMethod yX5_isTape, Cond.selects RX5 yX5_isTape yX5_isTape, Cond.initialized RX5, Cond.code yX5_isTape cX5_isTape 2 (some .boolean), Cond.fieldLink RX5 78 "TapeRoboticsModel" "tapes" "I", Cond.methodLink RX5 81 yX5_isIn, Cond.static yX5_isIn, Cond.code yX5_isIn cX5_isIn 3 (some .boolean), Cond.methodLink RX5 102 yX5_may, Cond.instanceMethod yX5_may, Cond.selects RX5 yX5_may yX5_may, Cond.code yX5_may cX5_may 2 (some .boolean), Cond.fieldLink RX5 74 "TapeRoboticsModel" "thrown" "I", Cond.methodLink RX5 151 yX5_waitingAt, Cond.instanceMethod yX5_waitingAt, Cond.selects RX5 yX5_waitingAt yX5_waitingAt, Cond.code yX5_waitingAt cX5_waitingAt 4 (some .int), Cond.fieldLink RX5 144 "TapeRoboticsModel" "jobs" "I", Cond.methodLink RX5 147 yX5_waits, Cond.instanceMethod yX5_waits, Cond.selects RX5 yX5_waits yX5_waits, Cond.code yX5_waits cX5_waits 3 (some .boolean), Cond.fieldLink RX5 59 "TapeRoboticsModel" "finished" "[Z"]
def wsX5_waiting_r2 : List Cond := [Cond.fieldLink RX5 50 "TapeRoboticsModel" "jobTape" "[I"]
def wsX5_waiting : List Cond := .code yX5_waiting cX5_waiting 2 (some .int) :: ((wsX5_waiting_r1 ++ wsX5_waiting_r2) ++ wsX50)
def wsX5_earliest : List Cond := .code yX5_earliest cX5_earliest 4 (some .int) :: ([.constant RX5 154 (100000), .fieldLink RX5 144 "TapeRoboticsModel" "jobs" "I", .fieldLink RX5 56 "TapeRoboticsModel" "deadline" "[I", .methodLink RX5 147 yX5_waits, .instanceMethod yX5_waits, .selects RX5 yX5_waits yX5_waits, .initialized RX5, .code yX5_waits cX5_waits 3 (some .boolean), .fieldLink RX5 59 "TapeRoboticsModel" "finished" "[Z", .fieldLink RX5 50 "TapeRoboticsModel" "jobTape" "[I"] ++ wsX50)
def wsX5_next : List Cond := .code yX5_next cX5_next 4 (some .int) :: ([.fieldLink RX5 74 "TapeRoboticsModel" "thrown" "I", .fieldLink RX5 78 "TapeRoboticsModel" "tapes" "I", .fieldLink RX5 19 "TapeRoboticsModel" "mounted" "[I", .fieldLink RX5 22 "TapeRoboticsModel" "lost" "[Z", .methodLink RX5 151 yX5_waitingAt, .instanceMethod yX5_waitingAt, .selects RX5 yX5_waitingAt yX5_waitingAt, .initialized RX5, .code yX5_waitingAt cX5_waitingAt 4 (some .int), .fieldLink RX5 144 "TapeRoboticsModel" "jobs" "I", .methodLink RX5 147 yX5_waits, .instanceMethod yX5_waits, .selects RX5 yX5_waits yX5_waits, .code yX5_waits cX5_waits 3 (some .boolean), .fieldLink RX5 59 "TapeRoboticsModel" "finished" "[Z", .fieldLink RX5 50 "TapeRoboticsModel" "jobTape" "[I", .methodLink RX5 155 yX5_earliest, .instanceMethod yX5_earliest, .selects RX5 yX5_earliest yX5_earliest, .code yX5_earliest cX5_earliest 4 (some .int), .constant RX5 154 (100000), .fieldLink RX5 56 "TapeRoboticsModel" "deadline" "[I"] ++ wsX50)
def wsX5_startOf : List Cond := .code yX5_startOf cX5_startOf 2 (some .int) :: ([.fieldLink RX5 29 "TapeRoboticsModel" "start" "[I", .fieldLink RX5 50 "TapeRoboticsModel" "jobTape" "[I", .fieldLink RX5 62 "TapeRoboticsModel" "list" "[I", .fieldLink RX5 53 "TapeRoboticsModel" "jobFile" "[I"] ++ wsX50)
def wsX5_blocksOf : List Cond := .code yX5_blocksOf cX5_blocksOf 2 (some .int) :: ([.fieldLink RX5 32 "TapeRoboticsModel" "blocks" "[I", .fieldLink RX5 50 "TapeRoboticsModel" "jobTape" "[I", .fieldLink RX5 62 "TapeRoboticsModel" "list" "[I", .fieldLink RX5 53 "TapeRoboticsModel" "jobFile" "[I"] ++ wsX50)
def wsX5_timeOf_r1 : List Cond := [Cond.fieldLink RX5 47 "TapeRoboticsModel" "stand" "[I", Cond.methodLink RX5 158 yX5_startOf, Cond.instanceMethod yX5_startOf, Cond.selects RX5 yX5_startOf yX5_startOf, Cond.initialized RX5, Cond.code yX5_startOf cX5_startOf 2 (some .int), Cond.fieldLink RX5 29 "TapeRoboticsModel" "start" "[I", Cond.fieldLink RX5 50 "TapeRoboticsModel" "jobTape" "[I", Cond.fieldLink RX5 62 "TapeRoboticsModel" "list" "[I", Cond.fieldLink RX5 53 "TapeRoboticsModel" "jobFile" "[I", Cond.methodLink RX5 161 yX5_blocksOf, Cond.instanceMethod yX5_blocksOf, Cond.selects RX5 yX5_blocksOf yX5_blocksOf, Cond.code yX5_blocksOf cX5_blocksOf 2 (some .int), Cond.fieldLink RX5 32 "TapeRoboticsModel" "blocks" "[I", Cond.methodLink RX5 127 yX5_way, Cond.instanceMethod yX5_way, Cond.selects RX5 yX5_way yX5_way, Cond.code yX5_way cX5_way 10 (some .int), Cond.fieldLink RX5 44 "TapeRoboticsModel" "held" "[I", Cond.fieldLink RX5 7 "TapeRoboticsModel" "tracks" "[I", Cond.fieldLink RX5 13 "TapeRoboticsModel" "length" "[I", Cond.fieldLink RX5 35 "TapeRoboticsModel" "make" "[I", Cond.methodLink RX5 114 yX5_alongOf]
def wsX5_timeOf_r2 : List Cond := [Cond.instanceMethod yX5_alongOf, Cond.selects RX5 yX5_alongOf yX5_alongOf, Cond.code yX5_alongOf cX5_alongOf 4 (some .int), Cond.methodLink RX5 110 yX5_trackOf, Cond.instanceMethod yX5_trackOf, Cond.selects RX5 yX5_trackOf yX5_trackOf, Cond.code yX5_trackOf cX5_trackOf 3 (some .int), Cond.methodLink RX5 117 yX5_size, Cond.static yX5_size, Cond.code yX5_size cX5_size 1 (some .int)]
def wsX5_timeOf : List Cond := .code yX5_timeOf cX5_timeOf 5 (some .int) :: ((wsX5_timeOf_r1 ++ wsX5_timeOf_r2) ++ wsX50)
def wsX5_listJobs : List Cond := .code yX5_listJobs cX5_listJobs 3 none :: ([.fieldLink RX5 164 "TapeRoboticsModel" "many" "I", .fieldLink RX5 144 "TapeRoboticsModel" "jobs" "I", .fieldLink RX5 44 "TapeRoboticsModel" "held" "[I", .fieldLink RX5 62 "TapeRoboticsModel" "list" "[I", .methodLink RX5 147 yX5_waits, .instanceMethod yX5_waits, .selects RX5 yX5_waits yX5_waits, .initialized RX5, .code yX5_waits cX5_waits 3 (some .boolean), .fieldLink RX5 59 "TapeRoboticsModel" "finished" "[Z", .fieldLink RX5 50 "TapeRoboticsModel" "jobTape" "[I"] ++ wsX50)
def wsX5_arrange_r1 : List Cond := [Cond.fieldLink RX5 164 "TapeRoboticsModel" "many" "I", Cond.constant RX5 171 (10000000), Cond.fieldLink RX5 68 "TapeRoboticsModel" "least" "[I", Cond.fieldLink RX5 65 "TapeRoboticsModel" "order" "[I", Cond.methodLink RX5 167 yX5_listJobs, Cond.instanceMethod yX5_listJobs, Cond.selects RX5 yX5_listJobs yX5_listJobs, Cond.initialized RX5, Cond.code yX5_listJobs cX5_listJobs 3 none, Cond.fieldLink RX5 144 "TapeRoboticsModel" "jobs" "I", Cond.fieldLink RX5 44 "TapeRoboticsModel" "held" "[I", Cond.fieldLink RX5 62 "TapeRoboticsModel" "list" "[I", Cond.methodLink RX5 147 yX5_waits, Cond.instanceMethod yX5_waits, Cond.selects RX5 yX5_waits yX5_waits, Cond.code yX5_waits cX5_waits 3 (some .boolean), Cond.fieldLink RX5 59 "TapeRoboticsModel" "finished" "[Z", Cond.fieldLink RX5 50 "TapeRoboticsModel" "jobTape" "[I", Cond.methodLink RX5 172 yX5_timeOf, Cond.instanceMethod yX5_timeOf, Cond.selects RX5 yX5_timeOf yX5_timeOf, Cond.code yX5_timeOf cX5_timeOf 5 (some .int), Cond.fieldLink RX5 47 "TapeRoboticsModel" "stand" "[I", Cond.methodLink RX5 158 yX5_startOf]
def wsX5_arrange_r2 : List Cond := [Cond.instanceMethod yX5_startOf, Cond.selects RX5 yX5_startOf yX5_startOf, Cond.code yX5_startOf cX5_startOf 2 (some .int), Cond.fieldLink RX5 29 "TapeRoboticsModel" "start" "[I", Cond.fieldLink RX5 53 "TapeRoboticsModel" "jobFile" "[I", Cond.methodLink RX5 161 yX5_blocksOf, Cond.instanceMethod yX5_blocksOf, Cond.selects RX5 yX5_blocksOf yX5_blocksOf, Cond.code yX5_blocksOf cX5_blocksOf 2 (some .int), Cond.fieldLink RX5 32 "TapeRoboticsModel" "blocks" "[I", Cond.methodLink RX5 127 yX5_way, Cond.instanceMethod yX5_way, Cond.selects RX5 yX5_way yX5_way, Cond.code yX5_way cX5_way 10 (some .int), Cond.fieldLink RX5 7 "TapeRoboticsModel" "tracks" "[I", Cond.fieldLink RX5 13 "TapeRoboticsModel" "length" "[I", Cond.fieldLink RX5 35 "TapeRoboticsModel" "make" "[I", Cond.methodLink RX5 114 yX5_alongOf, Cond.instanceMethod yX5_alongOf, Cond.selects RX5 yX5_alongOf yX5_alongOf, Cond.code yX5_alongOf cX5_alongOf 4 (some .int), Cond.methodLink RX5 110 yX5_trackOf, Cond.instanceMethod yX5_trackOf, Cond.selects RX5 yX5_trackOf yX5_trackOf]
def wsX5_arrange_r3 : List Cond := [Cond.code yX5_trackOf cX5_trackOf 3 (some .int), Cond.methodLink RX5 117 yX5_size, Cond.static yX5_size, Cond.code yX5_size cX5_size 1 (some .int)]
def wsX5_arrange : List Cond := .code yX5_arrange cX5_arrange 7 (some .int) :: ((wsX5_arrange_r1 ++ (wsX5_arrange_r2 ++ wsX5_arrange_r3)) ++ wsX50)
def wsX5_bestTime_r1 : List Cond := [Cond.methodLink RX5 92 yX5_isDrive, Cond.instanceMethod yX5_isDrive, Cond.selects RX5 yX5_isDrive yX5_isDrive, Cond.initialized RX5, Cond.code yX5_isDrive cX5_isDrive 2 (some .boolean), Cond.fieldLink RX5 85 "TapeRoboticsModel" "drives" "I", Cond.methodLink RX5 81 yX5_isIn, Cond.static yX5_isIn, Cond.code yX5_isIn cX5_isIn 3 (some .boolean), Cond.methodLink RX5 124 yX5_hasTape, Cond.instanceMethod yX5_hasTape, Cond.selects RX5 yX5_hasTape yX5_hasTape, Cond.code yX5_hasTape cX5_hasTape 2 (some .boolean), Cond.fieldLink RX5 44 "TapeRoboticsModel" "held" "[I", Cond.methodLink RX5 95 yX5_mayBoth, Cond.instanceMethod yX5_mayBoth, Cond.selects RX5 yX5_mayBoth yX5_mayBoth, Cond.code yX5_mayBoth cX5_mayBoth 3 (some .boolean), Cond.fieldLink RX5 74 "TapeRoboticsModel" "thrown" "I", Cond.methodLink RX5 175 yX5_arrange, Cond.instanceMethod yX5_arrange, Cond.selects RX5 yX5_arrange yX5_arrange, Cond.code yX5_arrange cX5_arrange 7 (some .int), Cond.fieldLink RX5 164 "TapeRoboticsModel" "many" "I"]
def wsX5_bestTime_r2 : List Cond := [Cond.constant RX5 171 (10000000), Cond.fieldLink RX5 68 "TapeRoboticsModel" "least" "[I", Cond.fieldLink RX5 65 "TapeRoboticsModel" "order" "[I", Cond.methodLink RX5 167 yX5_listJobs, Cond.instanceMethod yX5_listJobs, Cond.selects RX5 yX5_listJobs yX5_listJobs, Cond.code yX5_listJobs cX5_listJobs 3 none, Cond.fieldLink RX5 144 "TapeRoboticsModel" "jobs" "I", Cond.fieldLink RX5 62 "TapeRoboticsModel" "list" "[I", Cond.methodLink RX5 147 yX5_waits, Cond.instanceMethod yX5_waits, Cond.selects RX5 yX5_waits yX5_waits, Cond.code yX5_waits cX5_waits 3 (some .boolean), Cond.fieldLink RX5 59 "TapeRoboticsModel" "finished" "[Z", Cond.fieldLink RX5 50 "TapeRoboticsModel" "jobTape" "[I", Cond.methodLink RX5 172 yX5_timeOf, Cond.instanceMethod yX5_timeOf, Cond.selects RX5 yX5_timeOf yX5_timeOf, Cond.code yX5_timeOf cX5_timeOf 5 (some .int), Cond.fieldLink RX5 47 "TapeRoboticsModel" "stand" "[I", Cond.methodLink RX5 158 yX5_startOf, Cond.instanceMethod yX5_startOf, Cond.selects RX5 yX5_startOf yX5_startOf, Cond.code yX5_startOf cX5_startOf 2 (some .int)]
def wsX5_bestTime_r3 : List Cond := [Cond.fieldLink RX5 29 "TapeRoboticsModel" "start" "[I", Cond.fieldLink RX5 53 "TapeRoboticsModel" "jobFile" "[I", Cond.methodLink RX5 161 yX5_blocksOf, Cond.instanceMethod yX5_blocksOf, Cond.selects RX5 yX5_blocksOf yX5_blocksOf, Cond.code yX5_blocksOf cX5_blocksOf 2 (some .int), Cond.fieldLink RX5 32 "TapeRoboticsModel" "blocks" "[I", Cond.methodLink RX5 127 yX5_way, Cond.instanceMethod yX5_way, Cond.selects RX5 yX5_way yX5_way, Cond.code yX5_way cX5_way 10 (some .int), Cond.fieldLink RX5 7 "TapeRoboticsModel" "tracks" "[I", Cond.fieldLink RX5 13 "TapeRoboticsModel" "length" "[I", Cond.fieldLink RX5 35 "TapeRoboticsModel" "make" "[I", Cond.methodLink RX5 114 yX5_alongOf, Cond.instanceMethod yX5_alongOf, Cond.selects RX5 yX5_alongOf yX5_alongOf, Cond.code yX5_alongOf cX5_alongOf 4 (some .int), Cond.methodLink RX5 110 yX5_trackOf, Cond.instanceMethod yX5_trackOf, Cond.selects RX5 yX5_trackOf yX5_trackOf, Cond.code yX5_trackOf cX5_trackOf 3 (some .int), Cond.methodLink RX5 117 yX5_size, Cond.static yX5_size]
def wsX5_bestTime_r4 : List Cond := [Cond.code yX5_size cX5_size 1 (some .int)]
def wsX5_bestTime : List Cond := .code yX5_bestTime cX5_bestTime 2 (some .int) :: ((wsX5_bestTime_r1 ++ (wsX5_bestTime_r2 ++ (wsX5_bestTime_r3 ++ wsX5_bestTime_r4))) ++ wsX50)
def wsX5_bestJob_r1 : List Cond := [Cond.fieldLink RX5 164 "TapeRoboticsModel" "many" "I", Cond.fieldLink RX5 62 "TapeRoboticsModel" "list" "[I", Cond.fieldLink RX5 65 "TapeRoboticsModel" "order" "[I", Cond.methodLink RX5 92 yX5_isDrive, Cond.instanceMethod yX5_isDrive, Cond.selects RX5 yX5_isDrive yX5_isDrive, Cond.initialized RX5, Cond.code yX5_isDrive cX5_isDrive 2 (some .boolean), Cond.fieldLink RX5 85 "TapeRoboticsModel" "drives" "I", Cond.methodLink RX5 81 yX5_isIn, Cond.static yX5_isIn, Cond.code yX5_isIn cX5_isIn 3 (some .boolean), Cond.methodLink RX5 124 yX5_hasTape, Cond.instanceMethod yX5_hasTape, Cond.selects RX5 yX5_hasTape yX5_hasTape, Cond.code yX5_hasTape cX5_hasTape 2 (some .boolean), Cond.fieldLink RX5 44 "TapeRoboticsModel" "held" "[I", Cond.methodLink RX5 95 yX5_mayBoth, Cond.instanceMethod yX5_mayBoth, Cond.selects RX5 yX5_mayBoth yX5_mayBoth, Cond.code yX5_mayBoth cX5_mayBoth 3 (some .boolean), Cond.fieldLink RX5 74 "TapeRoboticsModel" "thrown" "I", Cond.methodLink RX5 175 yX5_arrange, Cond.instanceMethod yX5_arrange]
def wsX5_bestJob_r2 : List Cond := [Cond.selects RX5 yX5_arrange yX5_arrange, Cond.code yX5_arrange cX5_arrange 7 (some .int), Cond.constant RX5 171 (10000000), Cond.fieldLink RX5 68 "TapeRoboticsModel" "least" "[I", Cond.methodLink RX5 167 yX5_listJobs, Cond.instanceMethod yX5_listJobs, Cond.selects RX5 yX5_listJobs yX5_listJobs, Cond.code yX5_listJobs cX5_listJobs 3 none, Cond.fieldLink RX5 144 "TapeRoboticsModel" "jobs" "I", Cond.methodLink RX5 147 yX5_waits, Cond.instanceMethod yX5_waits, Cond.selects RX5 yX5_waits yX5_waits, Cond.code yX5_waits cX5_waits 3 (some .boolean), Cond.fieldLink RX5 59 "TapeRoboticsModel" "finished" "[Z", Cond.fieldLink RX5 50 "TapeRoboticsModel" "jobTape" "[I", Cond.methodLink RX5 172 yX5_timeOf, Cond.instanceMethod yX5_timeOf, Cond.selects RX5 yX5_timeOf yX5_timeOf, Cond.code yX5_timeOf cX5_timeOf 5 (some .int), Cond.fieldLink RX5 47 "TapeRoboticsModel" "stand" "[I", Cond.methodLink RX5 158 yX5_startOf, Cond.instanceMethod yX5_startOf, Cond.selects RX5 yX5_startOf yX5_startOf, Cond.code yX5_startOf cX5_startOf 2 (some .int)]
def wsX5_bestJob_r3 : List Cond := [Cond.fieldLink RX5 29 "TapeRoboticsModel" "start" "[I", Cond.fieldLink RX5 53 "TapeRoboticsModel" "jobFile" "[I", Cond.methodLink RX5 161 yX5_blocksOf, Cond.instanceMethod yX5_blocksOf, Cond.selects RX5 yX5_blocksOf yX5_blocksOf, Cond.code yX5_blocksOf cX5_blocksOf 2 (some .int), Cond.fieldLink RX5 32 "TapeRoboticsModel" "blocks" "[I", Cond.methodLink RX5 127 yX5_way, Cond.instanceMethod yX5_way, Cond.selects RX5 yX5_way yX5_way, Cond.code yX5_way cX5_way 10 (some .int), Cond.fieldLink RX5 7 "TapeRoboticsModel" "tracks" "[I", Cond.fieldLink RX5 13 "TapeRoboticsModel" "length" "[I", Cond.fieldLink RX5 35 "TapeRoboticsModel" "make" "[I", Cond.methodLink RX5 114 yX5_alongOf, Cond.instanceMethod yX5_alongOf, Cond.selects RX5 yX5_alongOf yX5_alongOf, Cond.code yX5_alongOf cX5_alongOf 4 (some .int), Cond.methodLink RX5 110 yX5_trackOf, Cond.instanceMethod yX5_trackOf, Cond.selects RX5 yX5_trackOf yX5_trackOf, Cond.code yX5_trackOf cX5_trackOf 3 (some .int), Cond.methodLink RX5 117 yX5_size, Cond.static yX5_size]
def wsX5_bestJob_r4 : List Cond := [Cond.code yX5_size cX5_size 1 (some .int), Cond.methodLink RX5 102 yX5_may, Cond.instanceMethod yX5_may, Cond.selects RX5 yX5_may yX5_may, Cond.code yX5_may cX5_may 2 (some .boolean)]
def wsX5_bestJob : List Cond := .code yX5_bestJob cX5_bestJob 3 (some .int) :: ((wsX5_bestJob_r1 ++ (wsX5_bestJob_r2 ++ (wsX5_bestJob_r3 ++ wsX5_bestJob_r4))) ++ wsX50)
def wsX5_timeWith_r1 : List Cond := [Cond.fieldLink RX5 71 "TapeRoboticsModel" "row" "[I", Cond.methodLink RX5 172 yX5_timeOf, Cond.instanceMethod yX5_timeOf, Cond.selects RX5 yX5_timeOf yX5_timeOf, Cond.initialized RX5, Cond.code yX5_timeOf cX5_timeOf 5 (some .int), Cond.fieldLink RX5 47 "TapeRoboticsModel" "stand" "[I", Cond.methodLink RX5 158 yX5_startOf, Cond.instanceMethod yX5_startOf, Cond.selects RX5 yX5_startOf yX5_startOf, Cond.code yX5_startOf cX5_startOf 2 (some .int), Cond.fieldLink RX5 29 "TapeRoboticsModel" "start" "[I", Cond.fieldLink RX5 50 "TapeRoboticsModel" "jobTape" "[I", Cond.fieldLink RX5 62 "TapeRoboticsModel" "list" "[I", Cond.fieldLink RX5 53 "TapeRoboticsModel" "jobFile" "[I", Cond.methodLink RX5 161 yX5_blocksOf, Cond.instanceMethod yX5_blocksOf, Cond.selects RX5 yX5_blocksOf yX5_blocksOf, Cond.code yX5_blocksOf cX5_blocksOf 2 (some .int), Cond.fieldLink RX5 32 "TapeRoboticsModel" "blocks" "[I", Cond.methodLink RX5 127 yX5_way, Cond.instanceMethod yX5_way, Cond.selects RX5 yX5_way yX5_way, Cond.code yX5_way cX5_way 10 (some .int)]
def wsX5_timeWith_r2 : List Cond := [Cond.fieldLink RX5 44 "TapeRoboticsModel" "held" "[I", Cond.fieldLink RX5 7 "TapeRoboticsModel" "tracks" "[I", Cond.fieldLink RX5 13 "TapeRoboticsModel" "length" "[I", Cond.fieldLink RX5 35 "TapeRoboticsModel" "make" "[I", Cond.methodLink RX5 114 yX5_alongOf, Cond.instanceMethod yX5_alongOf, Cond.selects RX5 yX5_alongOf yX5_alongOf, Cond.code yX5_alongOf cX5_alongOf 4 (some .int), Cond.methodLink RX5 110 yX5_trackOf, Cond.instanceMethod yX5_trackOf, Cond.selects RX5 yX5_trackOf yX5_trackOf, Cond.code yX5_trackOf cX5_trackOf 3 (some .int), Cond.methodLink RX5 117 yX5_size, Cond.static yX5_size, Cond.code yX5_size cX5_size 1 (some .int)]
def wsX5_timeWith : List Cond := .code yX5_timeWith cX5_timeWith 9 (some .int) :: ((wsX5_timeWith_r1 ++ wsX5_timeWith_r2) ++ wsX50)
def wsX5_insertedTime_r1 : List Cond := [Cond.fieldLink RX5 164 "TapeRoboticsModel" "many" "I", Cond.fieldLink RX5 71 "TapeRoboticsModel" "row" "[I", Cond.methodLink RX5 92 yX5_isDrive, Cond.instanceMethod yX5_isDrive, Cond.selects RX5 yX5_isDrive yX5_isDrive, Cond.initialized RX5, Cond.code yX5_isDrive cX5_isDrive 2 (some .boolean), Cond.fieldLink RX5 85 "TapeRoboticsModel" "drives" "I", Cond.methodLink RX5 81 yX5_isIn, Cond.static yX5_isIn, Cond.code yX5_isIn cX5_isIn 3 (some .boolean), Cond.methodLink RX5 124 yX5_hasTape, Cond.instanceMethod yX5_hasTape, Cond.selects RX5 yX5_hasTape yX5_hasTape, Cond.code yX5_hasTape cX5_hasTape 2 (some .boolean), Cond.fieldLink RX5 44 "TapeRoboticsModel" "held" "[I", Cond.methodLink RX5 95 yX5_mayBoth, Cond.instanceMethod yX5_mayBoth, Cond.selects RX5 yX5_mayBoth yX5_mayBoth, Cond.code yX5_mayBoth cX5_mayBoth 3 (some .boolean), Cond.fieldLink RX5 74 "TapeRoboticsModel" "thrown" "I", Cond.methodLink RX5 167 yX5_listJobs, Cond.instanceMethod yX5_listJobs, Cond.selects RX5 yX5_listJobs yX5_listJobs]
def wsX5_insertedTime_r2 : List Cond := [Cond.code yX5_listJobs cX5_listJobs 3 none, Cond.fieldLink RX5 144 "TapeRoboticsModel" "jobs" "I", Cond.fieldLink RX5 62 "TapeRoboticsModel" "list" "[I", Cond.methodLink RX5 147 yX5_waits, Cond.instanceMethod yX5_waits, Cond.selects RX5 yX5_waits yX5_waits, Cond.code yX5_waits cX5_waits 3 (some .boolean), Cond.fieldLink RX5 59 "TapeRoboticsModel" "finished" "[Z", Cond.fieldLink RX5 50 "TapeRoboticsModel" "jobTape" "[I", Cond.methodLink RX5 178 yX5_timeWith, Cond.instanceMethod yX5_timeWith, Cond.selects RX5 yX5_timeWith yX5_timeWith, Cond.code yX5_timeWith cX5_timeWith 9 (some .int), Cond.methodLink RX5 172 yX5_timeOf, Cond.instanceMethod yX5_timeOf, Cond.selects RX5 yX5_timeOf yX5_timeOf, Cond.code yX5_timeOf cX5_timeOf 5 (some .int), Cond.fieldLink RX5 47 "TapeRoboticsModel" "stand" "[I", Cond.methodLink RX5 158 yX5_startOf, Cond.instanceMethod yX5_startOf, Cond.selects RX5 yX5_startOf yX5_startOf, Cond.code yX5_startOf cX5_startOf 2 (some .int), Cond.fieldLink RX5 29 "TapeRoboticsModel" "start" "[I", Cond.fieldLink RX5 53 "TapeRoboticsModel" "jobFile" "[I"]
def wsX5_insertedTime_r3 : List Cond := [Cond.methodLink RX5 161 yX5_blocksOf, Cond.instanceMethod yX5_blocksOf, Cond.selects RX5 yX5_blocksOf yX5_blocksOf, Cond.code yX5_blocksOf cX5_blocksOf 2 (some .int), Cond.fieldLink RX5 32 "TapeRoboticsModel" "blocks" "[I", Cond.methodLink RX5 127 yX5_way, Cond.instanceMethod yX5_way, Cond.selects RX5 yX5_way yX5_way, Cond.code yX5_way cX5_way 10 (some .int), Cond.fieldLink RX5 7 "TapeRoboticsModel" "tracks" "[I", Cond.fieldLink RX5 13 "TapeRoboticsModel" "length" "[I", Cond.fieldLink RX5 35 "TapeRoboticsModel" "make" "[I", Cond.methodLink RX5 114 yX5_alongOf, Cond.instanceMethod yX5_alongOf, Cond.selects RX5 yX5_alongOf yX5_alongOf, Cond.code yX5_alongOf cX5_alongOf 4 (some .int), Cond.methodLink RX5 110 yX5_trackOf, Cond.instanceMethod yX5_trackOf, Cond.selects RX5 yX5_trackOf yX5_trackOf, Cond.code yX5_trackOf cX5_trackOf 3 (some .int), Cond.methodLink RX5 117 yX5_size, Cond.static yX5_size, Cond.code yX5_size cX5_size 1 (some .int)]
def wsX5_insertedTime : List Cond := .code yX5_insertedTime cX5_insertedTime 6 (some .int) :: ((wsX5_insertedTime_r1 ++ (wsX5_insertedTime_r2 ++ wsX5_insertedTime_r3)) ++ wsX50)
def wsX5_triedTime_r1 : List Cond := [Cond.methodLink RX5 182 yX5_bestTime, Cond.instanceMethod yX5_bestTime, Cond.selects RX5 yX5_bestTime yX5_bestTime, Cond.initialized RX5, Cond.code yX5_bestTime cX5_bestTime 2 (some .int), Cond.methodLink RX5 92 yX5_isDrive, Cond.instanceMethod yX5_isDrive, Cond.selects RX5 yX5_isDrive yX5_isDrive, Cond.code yX5_isDrive cX5_isDrive 2 (some .boolean), Cond.fieldLink RX5 85 "TapeRoboticsModel" "drives" "I", Cond.methodLink RX5 81 yX5_isIn, Cond.static yX5_isIn, Cond.code yX5_isIn cX5_isIn 3 (some .boolean), Cond.methodLink RX5 124 yX5_hasTape, Cond.instanceMethod yX5_hasTape, Cond.selects RX5 yX5_hasTape yX5_hasTape, Cond.code yX5_hasTape cX5_hasTape 2 (some .boolean), Cond.fieldLink RX5 44 "TapeRoboticsModel" "held" "[I", Cond.methodLink RX5 95 yX5_mayBoth, Cond.instanceMethod yX5_mayBoth, Cond.selects RX5 yX5_mayBoth yX5_mayBoth, Cond.code yX5_mayBoth cX5_mayBoth 3 (some .boolean), Cond.fieldLink RX5 74 "TapeRoboticsModel" "thrown" "I", Cond.methodLink RX5 175 yX5_arrange]
def wsX5_triedTime_r2 : List Cond := [Cond.instanceMethod yX5_arrange, Cond.selects RX5 yX5_arrange yX5_arrange, Cond.code yX5_arrange cX5_arrange 7 (some .int), Cond.fieldLink RX5 164 "TapeRoboticsModel" "many" "I", Cond.constant RX5 171 (10000000), Cond.fieldLink RX5 68 "TapeRoboticsModel" "least" "[I", Cond.fieldLink RX5 65 "TapeRoboticsModel" "order" "[I", Cond.methodLink RX5 167 yX5_listJobs, Cond.instanceMethod yX5_listJobs, Cond.selects RX5 yX5_listJobs yX5_listJobs, Cond.code yX5_listJobs cX5_listJobs 3 none, Cond.fieldLink RX5 144 "TapeRoboticsModel" "jobs" "I", Cond.fieldLink RX5 62 "TapeRoboticsModel" "list" "[I", Cond.methodLink RX5 147 yX5_waits, Cond.instanceMethod yX5_waits, Cond.selects RX5 yX5_waits yX5_waits, Cond.code yX5_waits cX5_waits 3 (some .boolean), Cond.fieldLink RX5 59 "TapeRoboticsModel" "finished" "[Z", Cond.fieldLink RX5 50 "TapeRoboticsModel" "jobTape" "[I", Cond.methodLink RX5 172 yX5_timeOf, Cond.instanceMethod yX5_timeOf, Cond.selects RX5 yX5_timeOf yX5_timeOf, Cond.code yX5_timeOf cX5_timeOf 5 (some .int), Cond.fieldLink RX5 47 "TapeRoboticsModel" "stand" "[I"]
def wsX5_triedTime_r3 : List Cond := [Cond.methodLink RX5 158 yX5_startOf, Cond.instanceMethod yX5_startOf, Cond.selects RX5 yX5_startOf yX5_startOf, Cond.code yX5_startOf cX5_startOf 2 (some .int), Cond.fieldLink RX5 29 "TapeRoboticsModel" "start" "[I", Cond.fieldLink RX5 53 "TapeRoboticsModel" "jobFile" "[I", Cond.methodLink RX5 161 yX5_blocksOf, Cond.instanceMethod yX5_blocksOf, Cond.selects RX5 yX5_blocksOf yX5_blocksOf, Cond.code yX5_blocksOf cX5_blocksOf 2 (some .int), Cond.fieldLink RX5 32 "TapeRoboticsModel" "blocks" "[I", Cond.methodLink RX5 127 yX5_way, Cond.instanceMethod yX5_way, Cond.selects RX5 yX5_way yX5_way, Cond.code yX5_way cX5_way 10 (some .int), Cond.fieldLink RX5 7 "TapeRoboticsModel" "tracks" "[I", Cond.fieldLink RX5 13 "TapeRoboticsModel" "length" "[I", Cond.fieldLink RX5 35 "TapeRoboticsModel" "make" "[I", Cond.methodLink RX5 114 yX5_alongOf, Cond.instanceMethod yX5_alongOf, Cond.selects RX5 yX5_alongOf yX5_alongOf, Cond.code yX5_alongOf cX5_alongOf 4 (some .int), Cond.methodLink RX5 110 yX5_trackOf, Cond.instanceMethod yX5_trackOf]
def wsX5_triedTime_r4 : List Cond := [Cond.selects RX5 yX5_trackOf yX5_trackOf, Cond.code yX5_trackOf cX5_trackOf 3 (some .int), Cond.methodLink RX5 117 yX5_size, Cond.static yX5_size, Cond.code yX5_size cX5_size 1 (some .int)]
def wsX5_triedTime : List Cond := .code yX5_triedTime cX5_triedTime 2 (some .int) :: ((wsX5_triedTime_r1 ++ (wsX5_triedTime_r2 ++ (wsX5_triedTime_r3 ++ wsX5_triedTime_r4))) ++ wsX50)
def wsX5_work_r1 : List Cond := [Cond.fieldLink RX5 164 "TapeRoboticsModel" "many" "I", Cond.fieldLink RX5 65 "TapeRoboticsModel" "order" "[I", Cond.fieldLink RX5 62 "TapeRoboticsModel" "list" "[I", Cond.fieldLink RX5 59 "TapeRoboticsModel" "finished" "[Z", Cond.fieldLink RX5 38 "TapeRoboticsModel" "clock" "[I", Cond.fieldLink RX5 56 "TapeRoboticsModel" "deadline" "[I", Cond.methodLink RX5 124 yX5_hasTape, Cond.instanceMethod yX5_hasTape, Cond.selects RX5 yX5_hasTape yX5_hasTape, Cond.initialized RX5, Cond.code yX5_hasTape cX5_hasTape 2 (some .boolean), Cond.fieldLink RX5 44 "TapeRoboticsModel" "held" "[I", Cond.methodLink RX5 92 yX5_isDrive, Cond.instanceMethod yX5_isDrive, Cond.selects RX5 yX5_isDrive yX5_isDrive, Cond.code yX5_isDrive cX5_isDrive 2 (some .boolean), Cond.fieldLink RX5 85 "TapeRoboticsModel" "drives" "I", Cond.methodLink RX5 81 yX5_isIn, Cond.static yX5_isIn, Cond.code yX5_isIn cX5_isIn 3 (some .boolean), Cond.methodLink RX5 131 yX5_isClean, Cond.instanceMethod yX5_isClean, Cond.selects RX5 yX5_isClean yX5_isClean, Cond.code yX5_isClean cX5_isClean 2 (some .boolean)]
def wsX5_work_r2 : List Cond := [Cond.fieldLink RX5 41 "TapeRoboticsModel" "count" "[I", Cond.methodLink RX5 95 yX5_mayBoth, Cond.instanceMethod yX5_mayBoth, Cond.selects RX5 yX5_mayBoth yX5_mayBoth, Cond.code yX5_mayBoth cX5_mayBoth 3 (some .boolean), Cond.fieldLink RX5 74 "TapeRoboticsModel" "thrown" "I", Cond.methodLink RX5 175 yX5_arrange, Cond.instanceMethod yX5_arrange, Cond.selects RX5 yX5_arrange yX5_arrange, Cond.code yX5_arrange cX5_arrange 7 (some .int), Cond.constant RX5 171 (10000000), Cond.fieldLink RX5 68 "TapeRoboticsModel" "least" "[I", Cond.methodLink RX5 167 yX5_listJobs, Cond.instanceMethod yX5_listJobs, Cond.selects RX5 yX5_listJobs yX5_listJobs, Cond.code yX5_listJobs cX5_listJobs 3 none, Cond.fieldLink RX5 144 "TapeRoboticsModel" "jobs" "I", Cond.methodLink RX5 147 yX5_waits, Cond.instanceMethod yX5_waits, Cond.selects RX5 yX5_waits yX5_waits, Cond.code yX5_waits cX5_waits 3 (some .boolean), Cond.fieldLink RX5 50 "TapeRoboticsModel" "jobTape" "[I", Cond.methodLink RX5 172 yX5_timeOf, Cond.instanceMethod yX5_timeOf]
def wsX5_work_r3 : List Cond := [Cond.selects RX5 yX5_timeOf yX5_timeOf, Cond.code yX5_timeOf cX5_timeOf 5 (some .int), Cond.fieldLink RX5 47 "TapeRoboticsModel" "stand" "[I", Cond.methodLink RX5 158 yX5_startOf, Cond.instanceMethod yX5_startOf, Cond.selects RX5 yX5_startOf yX5_startOf, Cond.code yX5_startOf cX5_startOf 2 (some .int), Cond.fieldLink RX5 29 "TapeRoboticsModel" "start" "[I", Cond.fieldLink RX5 53 "TapeRoboticsModel" "jobFile" "[I", Cond.methodLink RX5 161 yX5_blocksOf, Cond.instanceMethod yX5_blocksOf, Cond.selects RX5 yX5_blocksOf yX5_blocksOf, Cond.code yX5_blocksOf cX5_blocksOf 2 (some .int), Cond.fieldLink RX5 32 "TapeRoboticsModel" "blocks" "[I", Cond.methodLink RX5 127 yX5_way, Cond.instanceMethod yX5_way, Cond.selects RX5 yX5_way yX5_way, Cond.code yX5_way cX5_way 10 (some .int), Cond.fieldLink RX5 7 "TapeRoboticsModel" "tracks" "[I", Cond.fieldLink RX5 13 "TapeRoboticsModel" "length" "[I", Cond.fieldLink RX5 35 "TapeRoboticsModel" "make" "[I", Cond.methodLink RX5 114 yX5_alongOf, Cond.instanceMethod yX5_alongOf, Cond.selects RX5 yX5_alongOf yX5_alongOf]
def wsX5_work_r4 : List Cond := [Cond.code yX5_alongOf cX5_alongOf 4 (some .int), Cond.methodLink RX5 110 yX5_trackOf, Cond.instanceMethod yX5_trackOf, Cond.selects RX5 yX5_trackOf yX5_trackOf, Cond.code yX5_trackOf cX5_trackOf 3 (some .int), Cond.methodLink RX5 117 yX5_size, Cond.static yX5_size, Cond.code yX5_size cX5_size 1 (some .int), Cond.methodLink RX5 141 yX5_run, Cond.instanceMethod yX5_run, Cond.selects RX5 yX5_run yX5_run, Cond.code yX5_run cX5_run 5 (some .int)]
def wsX5_work : List Cond := .code yX5_work cX5_work 7 (some .int) :: ((wsX5_work_r1 ++ (wsX5_work_r2 ++ (wsX5_work_r3 ++ wsX5_work_r4))) ++ wsX50)
def wsX5_done : List Cond := .code yX5_done cX5_done 3 (some .int) :: ([.fieldLink RX5 74 "TapeRoboticsModel" "thrown" "I", .fieldLink RX5 144 "TapeRoboticsModel" "jobs" "I", .fieldLink RX5 59 "TapeRoboticsModel" "finished" "[Z"] ++ wsX50)
def wsX5_unlabelled : List Cond := .code yX5_unlabelled cX5_unlabelled 3 (some .int) :: ([.fieldLink RX5 78 "TapeRoboticsModel" "tapes" "I", .fieldLink RX5 22 "TapeRoboticsModel" "lost" "[Z"] ++ wsX50)
def wsX5_lose : List Cond := .code yX5_lose cX5_lose 3 (some .int) :: ([.fieldLink RX5 19 "TapeRoboticsModel" "mounted" "[I", .fieldLink RX5 22 "TapeRoboticsModel" "lost" "[Z", .methodLink RX5 88 yX5_isTape, .instanceMethod yX5_isTape, .selects RX5 yX5_isTape yX5_isTape, .initialized RX5, .code yX5_isTape cX5_isTape 2 (some .boolean), .fieldLink RX5 78 "TapeRoboticsModel" "tapes" "I", .methodLink RX5 81 yX5_isIn, .static yX5_isIn, .code yX5_isIn cX5_isIn 3 (some .boolean), .methodLink RX5 95 yX5_mayBoth, .instanceMethod yX5_mayBoth, .selects RX5 yX5_mayBoth yX5_mayBoth, .code yX5_mayBoth cX5_mayBoth 3 (some .boolean), .fieldLink RX5 74 "TapeRoboticsModel" "thrown" "I", .methodLink RX5 185 yX5_unlabelled, .instanceMethod yX5_unlabelled, .selects RX5 yX5_unlabelled yX5_unlabelled, .code yX5_unlabelled cX5_unlabelled 3 (some .int)] ++ wsX50)
def wsX5_inventory : List Cond := .code yX5_inventory cX5_inventory 4 (some .int) :: ([.fieldLink RX5 74 "TapeRoboticsModel" "thrown" "I", .fieldLink RX5 78 "TapeRoboticsModel" "tapes" "I", .fieldLink RX5 19 "TapeRoboticsModel" "mounted" "[I", .fieldLink RX5 16 "TapeRoboticsModel" "slot" "[I", .fieldLink RX5 22 "TapeRoboticsModel" "lost" "[Z", .methodLink RX5 185 yX5_unlabelled, .instanceMethod yX5_unlabelled, .selects RX5 yX5_unlabelled yX5_unlabelled, .initialized RX5, .code yX5_unlabelled cX5_unlabelled 3 (some .int)] ++ wsX50)
def wsJ9_abs_0f7a4 : List Cond := .code yJ9_abs_0f7a4 cJ9_abs_0f7a4 1 (some .int) :: ([])
def wsJ9_max_7cf53 : List Cond := .code yJ9_max_7cf53 cJ9_max_7cf53 2 (some .int) :: ([])
def wsJ9_min_7cf53 : List Cond := .code yJ9_min_7cf53 cJ9_min_7cf53 2 (some .int) :: ([])
def wsL_tape_r1 : List Cond := [Cond.classLink RL 13 "java/lang/IllegalArgumentException", Cond.classLink RL 15 "java/lang/IllegalStateException", Cond.methodLink RL 7 yX4_tape, Cond.instanceMethod yX4_tape, Cond.selects RX4 yX4_tape yX4_tape, Cond.initialized RX4, Cond.code yX4_tape cX4_tape 3 (some .int), Cond.classLink RX4 42 "java/lang/IllegalArgumentException", Cond.initialized "java/lang/IllegalArgumentException", Cond.classLink RX4 51 "java/lang/IllegalStateException", Cond.initialized "java/lang/IllegalStateException", Cond.fieldLink RX4 15 "TapeRobotics" "tapeCount" "I", Cond.fieldLink RX4 11 "TapeRobotics" "tapes" "[LTapeRobotics$Tape;", Cond.classLink RX4 9 RX3, Cond.instantiable RX3 8, Cond.initialized RX3, Cond.methodLink RX4 56 yX4_lowestFreeSlot, Cond.instanceMethod yX4_lowestFreeSlot, Cond.selects RX4 yX4_lowestFreeSlot yX4_lowestFreeSlot, Cond.code yX4_lowestFreeSlot cX4_lowestFreeSlot 2 (some .int), Cond.methodLink RX4 76 yX4_isFree, Cond.instanceMethod yX4_isFree, Cond.selects RX4 yX4_isFree yX4_isFree, Cond.code yX4_isFree cX4_isFree 6 (some .boolean)]
def wsL_tape_r2 : List Cond := [Cond.instanceMethod yX3_init, Cond.code yX3_init cX3_init 5 none, Cond.methodLink RX3 3 objectInit, Cond.instanceMethod objectInit, Cond.code objectInit ⟨#[0xb1]⟩ 1 none, Cond.fieldLink RX3 9 "TapeRobotics$Tape" "driveNumber" "I", Cond.fieldLink RX3 15 "TapeRobotics$Tape" "hasLabel" "Z", Cond.fieldLink RX3 19 "TapeRobotics$Tape" "fileCount" "I", Cond.arrayClass .int, Cond.fieldLink RX3 22 "TapeRobotics$Tape" "borders" "[I", Cond.fieldLink RX3 26 "TapeRobotics$Tape" "number" "I", Cond.fieldLink RX3 29 "TapeRobotics$Tape" "tracks" "I", Cond.fieldLink RX3 32 "TapeRobotics$Tape" "length" "I", Cond.fieldLink RX3 35 "TapeRobotics$Tape" "slot" "I"]
def wsL_tape : List Cond := .codeWith yL_tape cL_tape 5 (some .int) [(0, 10, 13, 13), (0, 10, 17, 15)] :: ((wsL_tape_r1 ++ wsL_tape_r2) ++ wsX40 ++ wsX30 ++ (vx_atS RX4 46 "java/lang/IllegalArgumentException" ["java/lang/RuntimeException", "java/lang/Exception"]).filter goodWord ++ (vx_atS RX4 55 "java/lang/IllegalStateException" ["java/lang/RuntimeException", "java/lang/Exception"]).filter goodWord)
def wsL_carry_r1 : List Cond := [Cond.classLink RL 20 "java/lang/IndexOutOfBoundsException", Cond.classLink RL 15 "java/lang/IllegalStateException", Cond.methodLink RL 17 yX4_carry, Cond.instanceMethod yX4_carry, Cond.selects RX4 yX4_carry yX4_carry, Cond.initialized RX4, Cond.code yX4_carry cX4_carry 5 (some .int), Cond.classLink RX4 67 "java/lang/IndexOutOfBoundsException", Cond.initialized "java/lang/IndexOutOfBoundsException", Cond.classLink RX4 51 "java/lang/IllegalStateException", Cond.initialized "java/lang/IllegalStateException", Cond.methodLink RX4 63 yX4_tapeNumbered, Cond.instanceMethod yX4_tapeNumbered, Cond.selects RX4 yX4_tapeNumbered yX4_tapeNumbered, Cond.code yX4_tapeNumbered cX4_tapeNumbered 3 (some (.object "TapeRobotics$Tape")), Cond.fieldLink RX4 11 "TapeRobotics" "tapes" "[LTapeRobotics$Tape;", Cond.instanceMethod yX3_isInDrive, Cond.initialized RX3, Cond.selects RX3 yX3_isInDrive yX3_isInDrive, Cond.code yX3_isInDrive cX3_isInDrive 1 (some .boolean), Cond.fieldLink RX3 9 "TapeRobotics$Tape" "driveNumber" "I", Cond.methodLink RX4 76 yX4_isFree, Cond.instanceMethod yX4_isFree, Cond.selects RX4 yX4_isFree yX4_isFree]
def wsL_carry_r2 : List Cond := [Cond.code yX4_isFree cX4_isFree 6 (some .boolean)]
def wsL_carry : List Cond := .codeWith yL_carry cL_carry 5 (some .int) [(0, 10, 13, 20), (0, 10, 17, 15)] :: ((wsL_carry_r1 ++ wsL_carry_r2) ++ wsX30 ++ wsX40 ++ (vx_atS RX4 71 "java/lang/IndexOutOfBoundsException" ["java/lang/RuntimeException", "java/lang/Exception"]).filter goodWord ++ (vx_atS RX4 55 "java/lang/IllegalStateException" ["java/lang/RuntimeException", "java/lang/Exception"]).filter goodWord)
def wsL_placeOf : List Cond := .codeWith yL_placeOf cL_placeOf 4 (some .int) [(0, 9, 12, 20)] :: ([.classLink RL 20 "java/lang/IndexOutOfBoundsException", .methodLink RL 22 yX4_placeOf, .instanceMethod yX4_placeOf, .selects RX4 yX4_placeOf yX4_placeOf, .initialized RX4, .code yX4_placeOf cX4_placeOf 3 (some .int), .methodLink RX4 63 yX4_tapeNumbered, .instanceMethod yX4_tapeNumbered, .selects RX4 yX4_tapeNumbered yX4_tapeNumbered, .code yX4_tapeNumbered cX4_tapeNumbered 3 (some (.object "TapeRobotics$Tape")), .classLink RX4 67 "java/lang/IndexOutOfBoundsException", .initialized "java/lang/IndexOutOfBoundsException", .fieldLink RX4 11 "TapeRobotics" "tapes" "[LTapeRobotics$Tape;", .instanceMethod yX3_isInDrive, .initialized RX3, .selects RX3 yX3_isInDrive yX3_isInDrive, .code yX3_isInDrive cX3_isInDrive 1 (some .boolean), .fieldLink RX3 9 "TapeRobotics$Tape" "driveNumber" "I"] ++ wsX30 ++ wsX40 ++ (vx_atS RX4 71 "java/lang/IndexOutOfBoundsException" ["java/lang/RuntimeException", "java/lang/Exception"]).filter goodWord)
def wsL_files : List Cond := .codeWith yL_files cL_files 4 (some .int) [(0, 9, 12, 20)] :: ([.classLink RL 20 "java/lang/IndexOutOfBoundsException", .methodLink RL 26 yX4_files, .instanceMethod yX4_files, .selects RX4 yX4_files yX4_files, .initialized RX4, .code yX4_files cX4_files 2 (some .int), .methodLink RX4 63 yX4_tapeNumbered, .instanceMethod yX4_tapeNumbered, .selects RX4 yX4_tapeNumbered yX4_tapeNumbered, .code yX4_tapeNumbered cX4_tapeNumbered 3 (some (.object "TapeRobotics$Tape")), .classLink RX4 67 "java/lang/IndexOutOfBoundsException", .initialized "java/lang/IndexOutOfBoundsException", .fieldLink RX4 11 "TapeRobotics" "tapes" "[LTapeRobotics$Tape;"] ++ wsX30 ++ wsX40 ++ (vx_atS RX4 71 "java/lang/IndexOutOfBoundsException" ["java/lang/RuntimeException", "java/lang/Exception"]).filter goodWord)
def wsL_start : List Cond := .codeWith yL_start cL_start 5 (some .int) [(0, 10, 13, 20)] :: ([.classLink RL 20 "java/lang/IndexOutOfBoundsException", .methodLink RL 29 yX4_start, .instanceMethod yX4_start, .selects RX4 yX4_start yX4_start, .initialized RX4, .code yX4_start cX4_start 4 (some .int), .methodLink RX4 63 yX4_tapeNumbered, .instanceMethod yX4_tapeNumbered, .selects RX4 yX4_tapeNumbered yX4_tapeNumbered, .code yX4_tapeNumbered cX4_tapeNumbered 3 (some (.object "TapeRobotics$Tape")), .classLink RX4 67 "java/lang/IndexOutOfBoundsException", .initialized "java/lang/IndexOutOfBoundsException", .fieldLink RX4 11 "TapeRobotics" "tapes" "[LTapeRobotics$Tape;", .methodLink RX4 91 yX4_refuseMissingFile, .static yX4_refuseMissingFile, .code yX4_refuseMissingFile cX4_refuseMissingFile 2 none, .instanceMethod yX3_beginOf, .initialized RX3, .selects RX3 yX3_beginOf yX3_beginOf, .code yX3_beginOf cX3_beginOf 2 (some .int), .fieldLink RX3 22 "TapeRobotics$Tape" "borders" "[I", .static yX4_at, .code yX4_at cX4_at 2 (some .int)] ++ wsX40 ++ wsX30 ++ (vx_atS RX4 71 "java/lang/IndexOutOfBoundsException" ["java/lang/RuntimeException", "java/lang/Exception"]).filter goodWord)
def wsL_along_r1 : List Cond := [Cond.classLink RL 20 "java/lang/IndexOutOfBoundsException", Cond.methodLink RL 32 yX4_along, Cond.instanceMethod yX4_along, Cond.selects RX4 yX4_along yX4_along, Cond.initialized RX4, Cond.code yX4_along cX4_along 4 (some .int), Cond.classLink RX4 67 "java/lang/IndexOutOfBoundsException", Cond.initialized "java/lang/IndexOutOfBoundsException", Cond.methodLink RX4 63 yX4_tapeNumbered, Cond.instanceMethod yX4_tapeNumbered, Cond.selects RX4 yX4_tapeNumbered yX4_tapeNumbered, Cond.code yX4_tapeNumbered cX4_tapeNumbered 3 (some (.object "TapeRobotics$Tape")), Cond.fieldLink RX4 11 "TapeRobotics" "tapes" "[LTapeRobotics$Tape;", Cond.instanceMethod yX3_places, Cond.initialized RX3, Cond.selects RX3 yX3_places yX3_places, Cond.code yX3_places cX3_places 1 (some .int), Cond.fieldLink RX3 29 "TapeRobotics$Tape" "tracks" "I", Cond.fieldLink RX3 32 "TapeRobotics$Tape" "length" "I", Cond.instanceMethod yX3_distanceAlong, Cond.selects RX3 yX3_distanceAlong yX3_distanceAlong, Cond.code yX3_distanceAlong cX3_distanceAlong 4 (some .int), Cond.methodLink RX3 57 Lib.Math.min.name, Cond.static Lib.Math.min.name]
def wsL_along_r2 : List Cond := [Cond.initialized "java/lang/Math", Cond.code Lib.Math.min.name Lib.Math.min.code 2 (some .int), Cond.methodLink RX3 54 yX3_trackOf, Cond.instanceMethod yX3_trackOf, Cond.selects RX3 yX3_trackOf yX3_trackOf, Cond.code yX3_trackOf cX3_trackOf 3 (some .int)]
def wsL_along : List Cond := .codeWith yL_along cL_along 5 (some .int) [(0, 10, 13, 20)] :: ((wsL_along_r1 ++ wsL_along_r2) ++ wsX40 ++ wsX30 ++ (vx_atS RX4 71 "java/lang/IndexOutOfBoundsException" ["java/lang/RuntimeException", "java/lang/Exception"]).filter goodWord)
def wsL_drive_r1 : List Cond := [Cond.classLink RL 13 "java/lang/IllegalArgumentException", Cond.classLink RL 15 "java/lang/IllegalStateException", Cond.methodLink RL 35 yX4_drive, Cond.instanceMethod yX4_drive, Cond.selects RX4 yX4_drive yX4_drive, Cond.initialized RX4, Cond.code yX4_drive cX4_drive 2 (some .int), Cond.classLink RX4 42 "java/lang/IllegalArgumentException", Cond.initialized "java/lang/IllegalArgumentException", Cond.classLink RX4 51 "java/lang/IllegalStateException", Cond.initialized "java/lang/IllegalStateException", Cond.fieldLink RX4 25 "TapeRobotics" "driveCount" "I", Cond.fieldLink RX4 21 "TapeRobotics" "drives" "[LTapeRobotics$Drive;", Cond.classLink RX4 19 RX0, Cond.instantiable RX0 7, Cond.initialized RX0, Cond.instanceMethod yX0_init, Cond.code yX0_init cX0_init 4 none, Cond.methodLink RX0 3 objectInit, Cond.instanceMethod objectInit, Cond.code objectInit ⟨#[0xb1]⟩ 1 none, Cond.fieldLink RX0 9 "TapeRobotics$Drive" "mounted" "LTapeRobotics$Tape;", Cond.fieldLink RX0 15 "TapeRobotics$Drive" "place" "I", Cond.fieldLink RX0 19 "TapeRobotics$Drive" "time" "I"]
def wsL_drive_r2 : List Cond := [Cond.fieldLink RX0 22 "TapeRobotics$Drive" "filesSinceCleaning" "I", Cond.fieldLink RX0 25 "TapeRobotics$Drive" "number" "I", Cond.fieldLink RX0 28 "TapeRobotics$Drive" "pace" "I", Cond.fieldLink RX0 31 "TapeRobotics$Drive" "step" "I"]
def wsL_drive : List Cond := .codeWith yL_drive cL_drive 4 (some .int) [(0, 9, 12, 13), (0, 9, 15, 15)] :: ((wsL_drive_r1 ++ wsL_drive_r2) ++ wsX40 ++ wsX00 ++ (vx_atS RX4 46 "java/lang/IllegalArgumentException" ["java/lang/RuntimeException", "java/lang/Exception"]).filter goodWord ++ (vx_atS RX4 55 "java/lang/IllegalStateException" ["java/lang/RuntimeException", "java/lang/Exception"]).filter goodWord)
def wsL_mount_r1 : List Cond := [Cond.classLink RL 20 "java/lang/IndexOutOfBoundsException", Cond.classLink RL 15 "java/lang/IllegalStateException", Cond.methodLink RL 38 yX4_mount, Cond.instanceMethod yX4_mount, Cond.selects RX4 yX4_mount yX4_mount, Cond.initialized RX4, Cond.code yX4_mount cX4_mount 5 (some .int), Cond.classLink RX4 51 "java/lang/IllegalStateException", Cond.initialized "java/lang/IllegalStateException", Cond.methodLink RX4 114 yX4_driveNumbered, Cond.instanceMethod yX4_driveNumbered, Cond.selects RX4 yX4_driveNumbered yX4_driveNumbered, Cond.code yX4_driveNumbered cX4_driveNumbered 3 (some (.object "TapeRobotics$Drive")), Cond.classLink RX4 67 "java/lang/IndexOutOfBoundsException", Cond.initialized "java/lang/IndexOutOfBoundsException", Cond.fieldLink RX4 21 "TapeRobotics" "drives" "[LTapeRobotics$Drive;", Cond.methodLink RX4 63 yX4_tapeNumbered, Cond.instanceMethod yX4_tapeNumbered, Cond.selects RX4 yX4_tapeNumbered yX4_tapeNumbered, Cond.code yX4_tapeNumbered cX4_tapeNumbered 3 (some (.object "TapeRobotics$Tape")), Cond.fieldLink RX4 11 "TapeRobotics" "tapes" "[LTapeRobotics$Tape;", Cond.instanceMethod yX3_isInDrive, Cond.initialized RX3, Cond.selects RX3 yX3_isInDrive yX3_isInDrive]
def wsL_mount_r2 : List Cond := [Cond.code yX3_isInDrive cX3_isInDrive 1 (some .boolean), Cond.fieldLink RX3 9 "TapeRobotics$Tape" "driveNumber" "I", Cond.instanceMethod yX0_robotTime, Cond.initialized RX0, Cond.selects RX0 yX0_robotTime yX0_robotTime, Cond.code yX0_robotTime cX0_robotTime 3 (some .int), Cond.fieldLink RX0 25 "TapeRobotics$Drive" "number" "I", Cond.methodLink RX0 34 Lib.Math.abs.name, Cond.static Lib.Math.abs.name, Cond.initialized "java/lang/Math", Cond.code Lib.Math.abs.name Lib.Math.abs.code 1 (some .int), Cond.instanceMethod yX0_spend, Cond.selects RX0 yX0_spend yX0_spend, Cond.code yX0_spend cX0_spend 2 (some .int), Cond.fieldLink RX0 19 "TapeRobotics$Drive" "time" "I"]
def wsL_mount : List Cond := .codeWith yL_mount cL_mount 5 (some .int) [(0, 10, 13, 20), (0, 10, 17, 15)] :: ((wsL_mount_r1 ++ wsL_mount_r2) ++ wsX00 ++ wsX30 ++ wsX40 ++ (vx_atS RX4 55 "java/lang/IllegalStateException" ["java/lang/RuntimeException", "java/lang/Exception"]).filter goodWord ++ (vx_atS RX4 71 "java/lang/IndexOutOfBoundsException" ["java/lang/RuntimeException", "java/lang/Exception"]).filter goodWord)
def wsL_unmount_r1 : List Cond := [Cond.classLink RL 20 "java/lang/IndexOutOfBoundsException", Cond.classLink RL 15 "java/lang/IllegalStateException", Cond.methodLink RL 41 yX4_unmount, Cond.instanceMethod yX4_unmount, Cond.selects RX4 yX4_unmount yX4_unmount, Cond.initialized RX4, Cond.code yX4_unmount cX4_unmount 5 (some .int), Cond.methodLink RX4 114 yX4_driveNumbered, Cond.instanceMethod yX4_driveNumbered, Cond.selects RX4 yX4_driveNumbered yX4_driveNumbered, Cond.code yX4_driveNumbered cX4_driveNumbered 3 (some (.object "TapeRobotics$Drive")), Cond.classLink RX4 67 "java/lang/IndexOutOfBoundsException", Cond.initialized "java/lang/IndexOutOfBoundsException", Cond.fieldLink RX4 21 "TapeRobotics" "drives" "[LTapeRobotics$Drive;", Cond.methodLink RX4 140 yX4_mountedIn, Cond.static yX4_mountedIn, Cond.code yX4_mountedIn cX4_mountedIn 2 (some (.object "TapeRobotics$Tape")), Cond.classLink RX4 51 "java/lang/IllegalStateException", Cond.initialized "java/lang/IllegalStateException", Cond.instanceMethod yX0_wayTime, Cond.initialized RX0, Cond.selects RX0 yX0_wayTime yX0_wayTime, Cond.code yX0_wayTime cX0_wayTime 6 (some .int), Cond.methodLink RX0 34 Lib.Math.abs.name]
def wsL_unmount_r2 : List Cond := [Cond.static Lib.Math.abs.name, Cond.initialized "java/lang/Math", Cond.code Lib.Math.abs.name Lib.Math.abs.code 1 (some .int), Cond.fieldLink RX0 28 "TapeRobotics$Drive" "pace" "I", Cond.fieldLink RX0 31 "TapeRobotics$Drive" "step" "I", Cond.instanceMethod yX3_distanceAlong, Cond.initialized RX3, Cond.selects RX3 yX3_distanceAlong yX3_distanceAlong, Cond.code yX3_distanceAlong cX3_distanceAlong 4 (some .int), Cond.fieldLink RX3 32 "TapeRobotics$Tape" "length" "I", Cond.methodLink RX3 57 Lib.Math.min.name, Cond.static Lib.Math.min.name, Cond.code Lib.Math.min.name Lib.Math.min.code 2 (some .int), Cond.methodLink RX3 54 yX3_trackOf, Cond.instanceMethod yX3_trackOf, Cond.selects RX3 yX3_trackOf yX3_trackOf, Cond.code yX3_trackOf cX3_trackOf 3 (some .int), Cond.fieldLink RX3 29 "TapeRobotics$Tape" "tracks" "I", Cond.instanceMethod yX0_robotTime, Cond.selects RX0 yX0_robotTime yX0_robotTime, Cond.code yX0_robotTime cX0_robotTime 3 (some .int), Cond.fieldLink RX0 25 "TapeRobotics$Drive" "number" "I", Cond.instanceMethod yX0_spend, Cond.selects RX0 yX0_spend yX0_spend]
def wsL_unmount_r3 : List Cond := [Cond.code yX0_spend cX0_spend 2 (some .int), Cond.fieldLink RX0 19 "TapeRobotics$Drive" "time" "I"]
def wsL_unmount : List Cond := .codeWith yL_unmount cL_unmount 4 (some .int) [(0, 9, 12, 20), (0, 9, 15, 15)] :: ((wsL_unmount_r1 ++ (wsL_unmount_r2 ++ wsL_unmount_r3)) ++ wsX00 ++ wsX30 ++ wsX40 ++ (vx_atS RX4 71 "java/lang/IndexOutOfBoundsException" ["java/lang/RuntimeException", "java/lang/Exception"]).filter goodWord ++ (vx_atS RX4 55 "java/lang/IllegalStateException" ["java/lang/RuntimeException", "java/lang/Exception"]).filter goodWord)
def wsL_write_r1 : List Cond := [Cond.classLink RL 20 "java/lang/IndexOutOfBoundsException", Cond.classLink RL 13 "java/lang/IllegalArgumentException", Cond.classLink RL 15 "java/lang/IllegalStateException", Cond.methodLink RL 44 yX4_write, Cond.instanceMethod yX4_write, Cond.selects RX4 yX4_write yX4_write, Cond.initialized RX4, Cond.code yX4_write cX4_write 6 (some .int), Cond.classLink RX4 42 "java/lang/IllegalArgumentException", Cond.initialized "java/lang/IllegalArgumentException", Cond.classLink RX4 51 "java/lang/IllegalStateException", Cond.initialized "java/lang/IllegalStateException", Cond.methodLink RX4 114 yX4_driveNumbered, Cond.instanceMethod yX4_driveNumbered, Cond.selects RX4 yX4_driveNumbered yX4_driveNumbered, Cond.code yX4_driveNumbered cX4_driveNumbered 3 (some (.object "TapeRobotics$Drive")), Cond.classLink RX4 67 "java/lang/IndexOutOfBoundsException", Cond.initialized "java/lang/IndexOutOfBoundsException", Cond.fieldLink RX4 21 "TapeRobotics" "drives" "[LTapeRobotics$Drive;", Cond.methodLink RX4 140 yX4_mountedIn, Cond.static yX4_mountedIn, Cond.code yX4_mountedIn cX4_mountedIn 2 (some (.object "TapeRobotics$Tape")), Cond.methodLink RX4 150 yX4_refuseUnclean, Cond.static yX4_refuseUnclean]
def wsL_write_r2 : List Cond := [Cond.code yX4_refuseUnclean cX4_refuseUnclean 1 none, Cond.instanceMethod yX0_wantsCleaning, Cond.initialized RX0, Cond.selects RX0 yX0_wantsCleaning yX0_wantsCleaning, Cond.code yX0_wantsCleaning cX0_wantsCleaning 1 (some .boolean), Cond.fieldLink RX0 22 "TapeRobotics$Drive" "filesSinceCleaning" "I", Cond.instanceMethod yX3_hasRoomFor, Cond.initialized RX3, Cond.selects RX3 yX3_hasRoomFor yX3_hasRoomFor, Cond.code yX3_hasRoomFor cX3_hasRoomFor 2 (some .boolean), Cond.fieldLink RX3 19 "TapeRobotics$Tape" "fileCount" "I", Cond.methodLink RX3 42 yX3_beginOf, Cond.instanceMethod yX3_beginOf, Cond.selects RX3 yX3_beginOf yX3_beginOf, Cond.code yX3_beginOf cX3_beginOf 2 (some .int), Cond.fieldLink RX3 22 "TapeRobotics$Tape" "borders" "[I", Cond.static yX4_at, Cond.code yX4_at cX4_at 2 (some .int), Cond.methodLink RX3 46 yX3_places, Cond.instanceMethod yX3_places, Cond.selects RX3 yX3_places yX3_places, Cond.code yX3_places cX3_places 1 (some .int), Cond.fieldLink RX3 29 "TapeRobotics$Tape" "tracks" "I", Cond.fieldLink RX3 32 "TapeRobotics$Tape" "length" "I"]
def wsL_write_r3 : List Cond := [Cond.instanceMethod yX3_append, Cond.selects RX3 yX3_append yX3_append, Cond.code yX3_append cX3_append 2 (some .int), Cond.static yX4_put, Cond.code yX4_put cX4_put 3 none, Cond.instanceMethod yX0_passFile, Cond.selects RX0 yX0_passFile yX0_passFile, Cond.code yX0_passFile cX0_passFile 4 (some .int), Cond.fieldLink RX0 15 "TapeRobotics$Drive" "place" "I", Cond.methodLink RX0 58 yX0_fileTime, Cond.instanceMethod yX0_fileTime, Cond.selects RX0 yX0_fileTime yX0_fileTime, Cond.code yX0_fileTime cX0_fileTime 5 (some .int), Cond.methodLink RX0 51 yX0_wayTime, Cond.instanceMethod yX0_wayTime, Cond.selects RX0 yX0_wayTime yX0_wayTime, Cond.code yX0_wayTime cX0_wayTime 6 (some .int), Cond.methodLink RX0 34 Lib.Math.abs.name, Cond.static Lib.Math.abs.name, Cond.initialized "java/lang/Math", Cond.code Lib.Math.abs.name Lib.Math.abs.code 1 (some .int), Cond.fieldLink RX0 28 "TapeRobotics$Drive" "pace" "I", Cond.fieldLink RX0 31 "TapeRobotics$Drive" "step" "I", Cond.instanceMethod yX3_distanceAlong]
def wsL_write_r4 : List Cond := [Cond.selects RX3 yX3_distanceAlong yX3_distanceAlong, Cond.code yX3_distanceAlong cX3_distanceAlong 4 (some .int), Cond.methodLink RX3 57 Lib.Math.min.name, Cond.static Lib.Math.min.name, Cond.code Lib.Math.min.name Lib.Math.min.code 2 (some .int), Cond.methodLink RX3 54 yX3_trackOf, Cond.instanceMethod yX3_trackOf, Cond.selects RX3 yX3_trackOf yX3_trackOf, Cond.code yX3_trackOf cX3_trackOf 3 (some .int), Cond.instanceMethod yX3_endOf, Cond.selects RX3 yX3_endOf yX3_endOf, Cond.code yX3_endOf cX3_endOf 2 (some .int), Cond.methodLink RX0 61 yX0_spend, Cond.instanceMethod yX0_spend, Cond.selects RX0 yX0_spend yX0_spend, Cond.code yX0_spend cX0_spend 2 (some .int), Cond.fieldLink RX0 19 "TapeRobotics$Drive" "time" "I"]
def wsL_write : List Cond := .codeWith yL_write cL_write 5 (some .int) [(0, 10, 13, 20), (0, 10, 17, 13), (0, 10, 21, 15)] :: ((wsL_write_r1 ++ (wsL_write_r2 ++ (wsL_write_r3 ++ wsL_write_r4))) ++ wsX40 ++ wsX00 ++ wsX30 ++ (vx_atS RX4 46 "java/lang/IllegalArgumentException" ["java/lang/RuntimeException", "java/lang/Exception"]).filter goodWord ++ (vx_atS RX4 55 "java/lang/IllegalStateException" ["java/lang/RuntimeException", "java/lang/Exception"]).filter goodWord ++ (vx_atS RX4 71 "java/lang/IndexOutOfBoundsException" ["java/lang/RuntimeException", "java/lang/Exception"]).filter goodWord)
def wsL_read_r1 : List Cond := [Cond.classLink RL 20 "java/lang/IndexOutOfBoundsException", Cond.classLink RL 15 "java/lang/IllegalStateException", Cond.methodLink RL 47 yX4_read, Cond.instanceMethod yX4_read, Cond.selects RX4 yX4_read yX4_read, Cond.initialized RX4, Cond.code yX4_read cX4_read 5 (some .int), Cond.methodLink RX4 114 yX4_driveNumbered, Cond.instanceMethod yX4_driveNumbered, Cond.selects RX4 yX4_driveNumbered yX4_driveNumbered, Cond.code yX4_driveNumbered cX4_driveNumbered 3 (some (.object "TapeRobotics$Drive")), Cond.classLink RX4 67 "java/lang/IndexOutOfBoundsException", Cond.initialized "java/lang/IndexOutOfBoundsException", Cond.fieldLink RX4 21 "TapeRobotics" "drives" "[LTapeRobotics$Drive;", Cond.methodLink RX4 140 yX4_mountedIn, Cond.static yX4_mountedIn, Cond.code yX4_mountedIn cX4_mountedIn 2 (some (.object "TapeRobotics$Tape")), Cond.classLink RX4 51 "java/lang/IllegalStateException", Cond.initialized "java/lang/IllegalStateException", Cond.methodLink RX4 91 yX4_refuseMissingFile, Cond.static yX4_refuseMissingFile, Cond.code yX4_refuseMissingFile cX4_refuseMissingFile 2 none, Cond.methodLink RX4 150 yX4_refuseUnclean, Cond.static yX4_refuseUnclean]
def wsL_read_r2 : List Cond := [Cond.code yX4_refuseUnclean cX4_refuseUnclean 1 none, Cond.instanceMethod yX0_wantsCleaning, Cond.initialized RX0, Cond.selects RX0 yX0_wantsCleaning yX0_wantsCleaning, Cond.code yX0_wantsCleaning cX0_wantsCleaning 1 (some .boolean), Cond.fieldLink RX0 22 "TapeRobotics$Drive" "filesSinceCleaning" "I", Cond.instanceMethod yX0_passFile, Cond.selects RX0 yX0_passFile yX0_passFile, Cond.code yX0_passFile cX0_passFile 4 (some .int), Cond.fieldLink RX0 15 "TapeRobotics$Drive" "place" "I", Cond.methodLink RX0 58 yX0_fileTime, Cond.instanceMethod yX0_fileTime, Cond.selects RX0 yX0_fileTime yX0_fileTime, Cond.code yX0_fileTime cX0_fileTime 5 (some .int), Cond.instanceMethod yX3_beginOf, Cond.initialized RX3, Cond.selects RX3 yX3_beginOf yX3_beginOf, Cond.code yX3_beginOf cX3_beginOf 2 (some .int), Cond.fieldLink RX3 22 "TapeRobotics$Tape" "borders" "[I", Cond.static yX4_at, Cond.code yX4_at cX4_at 2 (some .int), Cond.methodLink RX0 51 yX0_wayTime, Cond.instanceMethod yX0_wayTime, Cond.selects RX0 yX0_wayTime yX0_wayTime]
def wsL_read_r3 : List Cond := [Cond.code yX0_wayTime cX0_wayTime 6 (some .int), Cond.methodLink RX0 34 Lib.Math.abs.name, Cond.static Lib.Math.abs.name, Cond.initialized "java/lang/Math", Cond.code Lib.Math.abs.name Lib.Math.abs.code 1 (some .int), Cond.fieldLink RX0 28 "TapeRobotics$Drive" "pace" "I", Cond.fieldLink RX0 31 "TapeRobotics$Drive" "step" "I", Cond.instanceMethod yX3_distanceAlong, Cond.selects RX3 yX3_distanceAlong yX3_distanceAlong, Cond.code yX3_distanceAlong cX3_distanceAlong 4 (some .int), Cond.fieldLink RX3 32 "TapeRobotics$Tape" "length" "I", Cond.methodLink RX3 57 Lib.Math.min.name, Cond.static Lib.Math.min.name, Cond.code Lib.Math.min.name Lib.Math.min.code 2 (some .int), Cond.methodLink RX3 54 yX3_trackOf, Cond.instanceMethod yX3_trackOf, Cond.selects RX3 yX3_trackOf yX3_trackOf, Cond.code yX3_trackOf cX3_trackOf 3 (some .int), Cond.fieldLink RX3 29 "TapeRobotics$Tape" "tracks" "I", Cond.instanceMethod yX3_endOf, Cond.selects RX3 yX3_endOf yX3_endOf, Cond.code yX3_endOf cX3_endOf 2 (some .int), Cond.methodLink RX0 61 yX0_spend, Cond.instanceMethod yX0_spend]
def wsL_read_r4 : List Cond := [Cond.selects RX0 yX0_spend yX0_spend, Cond.code yX0_spend cX0_spend 2 (some .int), Cond.fieldLink RX0 19 "TapeRobotics$Drive" "time" "I"]
def wsL_read : List Cond := .codeWith yL_read cL_read 5 (some .int) [(0, 10, 13, 20), (0, 10, 17, 15)] :: ((wsL_read_r1 ++ (wsL_read_r2 ++ (wsL_read_r3 ++ wsL_read_r4))) ++ wsX40 ++ wsX00 ++ wsX30 ++ (vx_atS RX4 71 "java/lang/IndexOutOfBoundsException" ["java/lang/RuntimeException", "java/lang/Exception"]).filter goodWord ++ (vx_atS RX4 55 "java/lang/IllegalStateException" ["java/lang/RuntimeException", "java/lang/Exception"]).filter goodWord)
def wsL_clean : List Cond := .codeWith yL_clean cL_clean 4 (some .int) [(0, 9, 12, 20), (0, 9, 15, 15)] :: ([.classLink RL 20 "java/lang/IndexOutOfBoundsException", .classLink RL 15 "java/lang/IllegalStateException", .methodLink RL 50 yX4_clean, .instanceMethod yX4_clean, .selects RX4 yX4_clean yX4_clean, .initialized RX4, .code yX4_clean cX4_clean 4 (some .int), .classLink RX4 51 "java/lang/IllegalStateException", .initialized "java/lang/IllegalStateException", .methodLink RX4 114 yX4_driveNumbered, .instanceMethod yX4_driveNumbered, .selects RX4 yX4_driveNumbered yX4_driveNumbered, .code yX4_driveNumbered cX4_driveNumbered 3 (some (.object "TapeRobotics$Drive")), .classLink RX4 67 "java/lang/IndexOutOfBoundsException", .initialized "java/lang/IndexOutOfBoundsException", .fieldLink RX4 21 "TapeRobotics" "drives" "[LTapeRobotics$Drive;", .instanceMethod yX0_spend, .initialized RX0, .selects RX0 yX0_spend yX0_spend, .code yX0_spend cX0_spend 2 (some .int), .fieldLink RX0 19 "TapeRobotics$Drive" "time" "I"] ++ wsX00 ++ wsX40 ++ (vx_atS RX4 55 "java/lang/IllegalStateException" ["java/lang/RuntimeException", "java/lang/Exception"]).filter goodWord ++ (vx_atS RX4 71 "java/lang/IndexOutOfBoundsException" ["java/lang/RuntimeException", "java/lang/Exception"]).filter goodWord)
def wsL_clock : List Cond := .codeWith yL_clock cL_clock 4 (some .int) [(0, 9, 12, 20)] :: ([.classLink RL 20 "java/lang/IndexOutOfBoundsException", .methodLink RL 53 yX4_clock, .instanceMethod yX4_clock, .selects RX4 yX4_clock yX4_clock, .initialized RX4, .code yX4_clock cX4_clock 2 (some .int), .methodLink RX4 114 yX4_driveNumbered, .instanceMethod yX4_driveNumbered, .selects RX4 yX4_driveNumbered yX4_driveNumbered, .code yX4_driveNumbered cX4_driveNumbered 3 (some (.object "TapeRobotics$Drive")), .classLink RX4 67 "java/lang/IndexOutOfBoundsException", .initialized "java/lang/IndexOutOfBoundsException", .fieldLink RX4 21 "TapeRobotics" "drives" "[LTapeRobotics$Drive;"] ++ wsX00 ++ wsX40 ++ (vx_atS RX4 71 "java/lang/IndexOutOfBoundsException" ["java/lang/RuntimeException", "java/lang/Exception"]).filter goodWord)
def wsL_stands : List Cond := .codeWith yL_stands cL_stands 4 (some .int) [(0, 9, 12, 20)] :: ([.classLink RL 20 "java/lang/IndexOutOfBoundsException", .methodLink RL 56 yX4_stands, .instanceMethod yX4_stands, .selects RX4 yX4_stands yX4_stands, .initialized RX4, .code yX4_stands cX4_stands 2 (some .int), .methodLink RX4 114 yX4_driveNumbered, .instanceMethod yX4_driveNumbered, .selects RX4 yX4_driveNumbered yX4_driveNumbered, .code yX4_driveNumbered cX4_driveNumbered 3 (some (.object "TapeRobotics$Drive")), .classLink RX4 67 "java/lang/IndexOutOfBoundsException", .initialized "java/lang/IndexOutOfBoundsException", .fieldLink RX4 21 "TapeRobotics" "drives" "[LTapeRobotics$Drive;"] ++ wsX00 ++ wsX40 ++ (vx_atS RX4 71 "java/lang/IndexOutOfBoundsException" ["java/lang/RuntimeException", "java/lang/Exception"]).filter goodWord)
def wsL_job_r1 : List Cond := [Cond.classLink RL 20 "java/lang/IndexOutOfBoundsException", Cond.classLink RL 13 "java/lang/IllegalArgumentException", Cond.classLink RL 15 "java/lang/IllegalStateException", Cond.methodLink RL 59 yX4_job, Cond.instanceMethod yX4_job, Cond.selects RX4 yX4_job yX4_job, Cond.initialized RX4, Cond.code yX4_job cX4_job 5 (some .int), Cond.classLink RX4 42 "java/lang/IllegalArgumentException", Cond.initialized "java/lang/IllegalArgumentException", Cond.classLink RX4 51 "java/lang/IllegalStateException", Cond.initialized "java/lang/IllegalStateException", Cond.constant RX4 174 (99999), Cond.fieldLink RX4 31 "TapeRobotics" "jobs" "LTapeRobotics$Jobs;", Cond.methodLink RX4 63 yX4_tapeNumbered, Cond.instanceMethod yX4_tapeNumbered, Cond.selects RX4 yX4_tapeNumbered yX4_tapeNumbered, Cond.code yX4_tapeNumbered cX4_tapeNumbered 3 (some (.object "TapeRobotics$Tape")), Cond.classLink RX4 67 "java/lang/IndexOutOfBoundsException", Cond.initialized "java/lang/IndexOutOfBoundsException", Cond.fieldLink RX4 11 "TapeRobotics" "tapes" "[LTapeRobotics$Tape;", Cond.methodLink RX4 91 yX4_refuseMissingFile, Cond.static yX4_refuseMissingFile, Cond.code yX4_refuseMissingFile cX4_refuseMissingFile 2 none]
def wsL_job_r2 : List Cond := [Cond.instanceMethod yX1_countAt, Cond.initialized RX1, Cond.selects RX1 yX1_countAt yX1_countAt, Cond.code yX1_countAt cX1_countAt 4 (some .int), Cond.fieldLink RX1 9 "TapeRobotics$Jobs" "count" "I", Cond.fieldLink RX1 18 "TapeRobotics$Jobs" "waitsAt" "[I", Cond.static yX4_at, Cond.code yX4_at cX4_at 2 (some .int), Cond.instanceMethod yX1_enter, Cond.selects RX1 yX1_enter yX1_enter, Cond.code yX1_enter cX1_enter 4 (some .int), Cond.fieldLink RX1 22 "TapeRobotics$Jobs" "files" "[I", Cond.fieldLink RX1 25 "TapeRobotics$Jobs" "deadlines" "[I", Cond.static yX4_put, Cond.code yX4_put cX4_put 3 none]
def wsL_job : List Cond := .codeWith yL_job cL_job 6 (some .int) [(0, 12, 15, 20), (0, 12, 19, 13), (0, 12, 23, 15)] :: ((wsL_job_r1 ++ wsL_job_r2) ++ wsX40 ++ wsX10 ++ wsX30 ++ (vx_atS RX4 46 "java/lang/IllegalArgumentException" ["java/lang/RuntimeException", "java/lang/Exception"]).filter goodWord ++ (vx_atS RX4 55 "java/lang/IllegalStateException" ["java/lang/RuntimeException", "java/lang/Exception"]).filter goodWord ++ (vx_atS RX4 71 "java/lang/IndexOutOfBoundsException" ["java/lang/RuntimeException", "java/lang/Exception"]).filter goodWord)
def wsL_waiting : List Cond := .codeWith yL_waiting cL_waiting 4 (some .int) [(0, 9, 12, 20)] :: ([.classLink RL 20 "java/lang/IndexOutOfBoundsException", .methodLink RL 63 yX4_waiting, .instanceMethod yX4_waiting, .selects RX4 yX4_waiting yX4_waiting, .initialized RX4, .code yX4_waiting cX4_waiting 2 (some .int), .fieldLink RX4 31 "TapeRobotics" "jobs" "LTapeRobotics$Jobs;", .methodLink RX4 63 yX4_tapeNumbered, .instanceMethod yX4_tapeNumbered, .selects RX4 yX4_tapeNumbered yX4_tapeNumbered, .code yX4_tapeNumbered cX4_tapeNumbered 3 (some (.object "TapeRobotics$Tape")), .classLink RX4 67 "java/lang/IndexOutOfBoundsException", .initialized "java/lang/IndexOutOfBoundsException", .fieldLink RX4 11 "TapeRobotics" "tapes" "[LTapeRobotics$Tape;", .instanceMethod yX1_countAt, .initialized RX1, .selects RX1 yX1_countAt yX1_countAt, .code yX1_countAt cX1_countAt 4 (some .int), .fieldLink RX1 9 "TapeRobotics$Jobs" "count" "I", .fieldLink RX1 18 "TapeRobotics$Jobs" "waitsAt" "[I", .static yX4_at, .code yX4_at cX4_at 2 (some .int)] ++ wsX40 ++ wsX30 ++ wsX10 ++ (vx_atS RX4 71 "java/lang/IndexOutOfBoundsException" ["java/lang/RuntimeException", "java/lang/Exception"]).filter goodWord)
def wsL_bestTime_r1 : List Cond := [Cond.classLink RL 20 "java/lang/IndexOutOfBoundsException", Cond.classLink RL 15 "java/lang/IllegalStateException", Cond.methodLink RL 66 yX4_bestTime, Cond.instanceMethod yX4_bestTime, Cond.selects RX4 yX4_bestTime yX4_bestTime, Cond.initialized RX4, Cond.code yX4_bestTime cX4_bestTime 2 (some .int), Cond.fieldLink RX4 38 "TapeRobotics" "orders" "LTapeRobotics$Orders;", Cond.methodLink RX4 114 yX4_driveNumbered, Cond.instanceMethod yX4_driveNumbered, Cond.selects RX4 yX4_driveNumbered yX4_driveNumbered, Cond.code yX4_driveNumbered cX4_driveNumbered 3 (some (.object "TapeRobotics$Drive")), Cond.classLink RX4 67 "java/lang/IndexOutOfBoundsException", Cond.initialized "java/lang/IndexOutOfBoundsException", Cond.fieldLink RX4 21 "TapeRobotics" "drives" "[LTapeRobotics$Drive;", Cond.methodLink RX4 193 yX4_measureOrders, Cond.instanceMethod yX4_measureOrders, Cond.selects RX4 yX4_measureOrders yX4_measureOrders, Cond.code yX4_measureOrders cX4_measureOrders 2 none, Cond.fieldLink RX4 31 "TapeRobotics" "jobs" "LTapeRobotics$Jobs;", Cond.methodLink RX4 140 yX4_mountedIn, Cond.static yX4_mountedIn, Cond.code yX4_mountedIn cX4_mountedIn 2 (some (.object "TapeRobotics$Tape")), Cond.classLink RX4 51 "java/lang/IllegalStateException"]
def wsL_bestTime_r2 : List Cond := [Cond.initialized "java/lang/IllegalStateException", Cond.instanceMethod yX2_measure, Cond.initialized RX2, Cond.selects RX2 yX2_measure yX2_measure, Cond.code yX2_measure cX2_measure 8 none, Cond.fieldLink RX2 15 "TapeRobotics$Orders" "numbers" "[I", Cond.fieldLink RX2 9 "TapeRobotics$Orders" "count" "I", Cond.fieldLink RX2 19 "TapeRobotics$Orders" "legs" "[I", Cond.instanceMethod yX1_collectAt, Cond.initialized RX1, Cond.selects RX1 yX1_collectAt yX1_collectAt, Cond.code yX1_collectAt cX1_collectAt 5 (some .int), Cond.fieldLink RX1 9 "TapeRobotics$Jobs" "count" "I", Cond.fieldLink RX1 18 "TapeRobotics$Jobs" "waitsAt" "[I", Cond.methodLink RX1 37 Lib.Math.min.name, Cond.static Lib.Math.min.name, Cond.initialized "java/lang/Math", Cond.code Lib.Math.min.name Lib.Math.min.code 2 (some .int), Cond.static yX4_at, Cond.code yX4_at cX4_at 2 (some .int), Cond.static yX4_put, Cond.code yX4_put cX4_put 3 none, Cond.instanceMethod yX1_fileOf, Cond.selects RX1 yX1_fileOf yX1_fileOf]
def wsL_bestTime_r3 : List Cond := [Cond.code yX1_fileOf cX1_fileOf 2 (some .int), Cond.fieldLink RX1 22 "TapeRobotics$Jobs" "files" "[I", Cond.instanceMethod yX0_fileTime, Cond.initialized RX0, Cond.selects RX0 yX0_fileTime yX0_fileTime, Cond.code yX0_fileTime cX0_fileTime 5 (some .int), Cond.instanceMethod yX3_beginOf, Cond.initialized RX3, Cond.selects RX3 yX3_beginOf yX3_beginOf, Cond.code yX3_beginOf cX3_beginOf 2 (some .int), Cond.fieldLink RX3 22 "TapeRobotics$Tape" "borders" "[I", Cond.methodLink RX0 51 yX0_wayTime, Cond.instanceMethod yX0_wayTime, Cond.selects RX0 yX0_wayTime yX0_wayTime, Cond.code yX0_wayTime cX0_wayTime 6 (some .int), Cond.methodLink RX0 34 Lib.Math.abs.name, Cond.static Lib.Math.abs.name, Cond.code Lib.Math.abs.name Lib.Math.abs.code 1 (some .int), Cond.fieldLink RX0 28 "TapeRobotics$Drive" "pace" "I", Cond.fieldLink RX0 31 "TapeRobotics$Drive" "step" "I", Cond.instanceMethod yX3_distanceAlong, Cond.selects RX3 yX3_distanceAlong yX3_distanceAlong, Cond.code yX3_distanceAlong cX3_distanceAlong 4 (some .int), Cond.fieldLink RX3 32 "TapeRobotics$Tape" "length" "I"]
def wsL_bestTime_r4 : List Cond := [Cond.methodLink RX3 57 Lib.Math.min.name, Cond.methodLink RX3 54 yX3_trackOf, Cond.instanceMethod yX3_trackOf, Cond.selects RX3 yX3_trackOf yX3_trackOf, Cond.code yX3_trackOf cX3_trackOf 3 (some .int), Cond.fieldLink RX3 29 "TapeRobotics$Tape" "tracks" "I", Cond.instanceMethod yX3_endOf, Cond.selects RX3 yX3_endOf yX3_endOf, Cond.code yX3_endOf cX3_endOf 2 (some .int), Cond.instanceMethod yX2_findBest, Cond.selects RX2 yX2_findBest yX2_findBest, Cond.code yX2_findBest cX2_findBest 4 none, Cond.fieldLink RX2 22 "TapeRobotics$Orders" "rests" "[I", Cond.fieldLink RX2 25 "TapeRobotics$Orders" "best" "[I", Cond.methodLink RX2 70 yX2_restBehind, Cond.instanceMethod yX2_restBehind, Cond.selects RX2 yX2_restBehind yX2_restBehind, Cond.code yX2_restBehind cX2_restBehind 4 (some .int), Cond.methodLink RX2 73 yX2_bestFollower, Cond.instanceMethod yX2_bestFollower, Cond.selects RX2 yX2_bestFollower yX2_bestFollower, Cond.code yX2_bestFollower cX2_bestFollower 7 (some .int), Cond.methodLink RX2 76 yX2_restThrough, Cond.instanceMethod yX2_restThrough]
def wsL_bestTime_r5 : List Cond := [Cond.selects RX2 yX2_restThrough yX2_restThrough, Cond.code yX2_restThrough cX2_restThrough 4 (some .int), Cond.methodLink RX2 66 yX2_leg, Cond.instanceMethod yX2_leg, Cond.selects RX2 yX2_leg yX2_leg, Cond.code yX2_leg cX2_leg 3 (some .int), Cond.instanceMethod yX2_timeOf, Cond.selects RX2 yX2_timeOf yX2_timeOf, Cond.code yX2_timeOf cX2_timeOf 7 (some .int)]
def wsL_bestTime : List Cond := .codeWith yL_bestTime cL_bestTime 4 (some .int) [(0, 9, 12, 20), (0, 9, 15, 15)] :: ((wsL_bestTime_r1 ++ (wsL_bestTime_r2 ++ (wsL_bestTime_r3 ++ (wsL_bestTime_r4 ++ wsL_bestTime_r5)))) ++ wsX40 ++ wsX20 ++ wsX00 ++ wsX30 ++ wsX10 ++ (vx_atS RX4 71 "java/lang/IndexOutOfBoundsException" ["java/lang/RuntimeException", "java/lang/Exception"]).filter goodWord ++ (vx_atS RX4 55 "java/lang/IllegalStateException" ["java/lang/RuntimeException", "java/lang/Exception"]).filter goodWord)
def wsL_bestJob_r1 : List Cond := [Cond.classLink RL 20 "java/lang/IndexOutOfBoundsException", Cond.classLink RL 15 "java/lang/IllegalStateException", Cond.methodLink RL 69 yX4_bestJob, Cond.instanceMethod yX4_bestJob, Cond.selects RX4 yX4_bestJob yX4_bestJob, Cond.initialized RX4, Cond.code yX4_bestJob cX4_bestJob 3 (some .int), Cond.classLink RX4 67 "java/lang/IndexOutOfBoundsException", Cond.initialized "java/lang/IndexOutOfBoundsException", Cond.fieldLink RX4 38 "TapeRobotics" "orders" "LTapeRobotics$Orders;", Cond.methodLink RX4 114 yX4_driveNumbered, Cond.instanceMethod yX4_driveNumbered, Cond.selects RX4 yX4_driveNumbered yX4_driveNumbered, Cond.code yX4_driveNumbered cX4_driveNumbered 3 (some (.object "TapeRobotics$Drive")), Cond.fieldLink RX4 21 "TapeRobotics" "drives" "[LTapeRobotics$Drive;", Cond.methodLink RX4 193 yX4_measureOrders, Cond.instanceMethod yX4_measureOrders, Cond.selects RX4 yX4_measureOrders yX4_measureOrders, Cond.code yX4_measureOrders cX4_measureOrders 2 none, Cond.fieldLink RX4 31 "TapeRobotics" "jobs" "LTapeRobotics$Jobs;", Cond.methodLink RX4 140 yX4_mountedIn, Cond.static yX4_mountedIn, Cond.code yX4_mountedIn cX4_mountedIn 2 (some (.object "TapeRobotics$Tape")), Cond.classLink RX4 51 "java/lang/IllegalStateException"]
def wsL_bestJob_r2 : List Cond := [Cond.initialized "java/lang/IllegalStateException", Cond.instanceMethod yX2_measure, Cond.initialized RX2, Cond.selects RX2 yX2_measure yX2_measure, Cond.code yX2_measure cX2_measure 8 none, Cond.fieldLink RX2 15 "TapeRobotics$Orders" "numbers" "[I", Cond.fieldLink RX2 9 "TapeRobotics$Orders" "count" "I", Cond.fieldLink RX2 19 "TapeRobotics$Orders" "legs" "[I", Cond.instanceMethod yX1_collectAt, Cond.initialized RX1, Cond.selects RX1 yX1_collectAt yX1_collectAt, Cond.code yX1_collectAt cX1_collectAt 5 (some .int), Cond.fieldLink RX1 9 "TapeRobotics$Jobs" "count" "I", Cond.fieldLink RX1 18 "TapeRobotics$Jobs" "waitsAt" "[I", Cond.methodLink RX1 37 Lib.Math.min.name, Cond.static Lib.Math.min.name, Cond.initialized "java/lang/Math", Cond.code Lib.Math.min.name Lib.Math.min.code 2 (some .int), Cond.static yX4_at, Cond.code yX4_at cX4_at 2 (some .int), Cond.static yX4_put, Cond.code yX4_put cX4_put 3 none, Cond.instanceMethod yX1_fileOf, Cond.selects RX1 yX1_fileOf yX1_fileOf]
def wsL_bestJob_r3 : List Cond := [Cond.code yX1_fileOf cX1_fileOf 2 (some .int), Cond.fieldLink RX1 22 "TapeRobotics$Jobs" "files" "[I", Cond.instanceMethod yX0_fileTime, Cond.initialized RX0, Cond.selects RX0 yX0_fileTime yX0_fileTime, Cond.code yX0_fileTime cX0_fileTime 5 (some .int), Cond.instanceMethod yX3_beginOf, Cond.initialized RX3, Cond.selects RX3 yX3_beginOf yX3_beginOf, Cond.code yX3_beginOf cX3_beginOf 2 (some .int), Cond.fieldLink RX3 22 "TapeRobotics$Tape" "borders" "[I", Cond.methodLink RX0 51 yX0_wayTime, Cond.instanceMethod yX0_wayTime, Cond.selects RX0 yX0_wayTime yX0_wayTime, Cond.code yX0_wayTime cX0_wayTime 6 (some .int), Cond.methodLink RX0 34 Lib.Math.abs.name, Cond.static Lib.Math.abs.name, Cond.code Lib.Math.abs.name Lib.Math.abs.code 1 (some .int), Cond.fieldLink RX0 28 "TapeRobotics$Drive" "pace" "I", Cond.fieldLink RX0 31 "TapeRobotics$Drive" "step" "I", Cond.instanceMethod yX3_distanceAlong, Cond.selects RX3 yX3_distanceAlong yX3_distanceAlong, Cond.code yX3_distanceAlong cX3_distanceAlong 4 (some .int), Cond.fieldLink RX3 32 "TapeRobotics$Tape" "length" "I"]
def wsL_bestJob_r4 : List Cond := [Cond.methodLink RX3 57 Lib.Math.min.name, Cond.methodLink RX3 54 yX3_trackOf, Cond.instanceMethod yX3_trackOf, Cond.selects RX3 yX3_trackOf yX3_trackOf, Cond.code yX3_trackOf cX3_trackOf 3 (some .int), Cond.fieldLink RX3 29 "TapeRobotics$Tape" "tracks" "I", Cond.instanceMethod yX3_endOf, Cond.selects RX3 yX3_endOf yX3_endOf, Cond.code yX3_endOf cX3_endOf 2 (some .int), Cond.instanceMethod yX2_findBest, Cond.selects RX2 yX2_findBest yX2_findBest, Cond.code yX2_findBest cX2_findBest 4 none, Cond.fieldLink RX2 22 "TapeRobotics$Orders" "rests" "[I", Cond.fieldLink RX2 25 "TapeRobotics$Orders" "best" "[I", Cond.methodLink RX2 70 yX2_restBehind, Cond.instanceMethod yX2_restBehind, Cond.selects RX2 yX2_restBehind yX2_restBehind, Cond.code yX2_restBehind cX2_restBehind 4 (some .int), Cond.methodLink RX2 73 yX2_bestFollower, Cond.instanceMethod yX2_bestFollower, Cond.selects RX2 yX2_bestFollower yX2_bestFollower, Cond.code yX2_bestFollower cX2_bestFollower 7 (some .int), Cond.methodLink RX2 76 yX2_restThrough, Cond.instanceMethod yX2_restThrough]
def wsL_bestJob_r5 : List Cond := [Cond.selects RX2 yX2_restThrough yX2_restThrough, Cond.code yX2_restThrough cX2_restThrough 4 (some .int), Cond.methodLink RX2 66 yX2_leg, Cond.instanceMethod yX2_leg, Cond.selects RX2 yX2_leg yX2_leg, Cond.code yX2_leg cX2_leg 3 (some .int), Cond.instanceMethod yX2_bestJobAt, Cond.selects RX2 yX2_bestJobAt yX2_bestJobAt, Cond.code yX2_bestJobAt cX2_bestJobAt 2 (some .int)]
def wsL_bestJob : List Cond := .codeWith yL_bestJob cL_bestJob 5 (some .int) [(0, 10, 13, 20), (0, 10, 17, 15)] :: ((wsL_bestJob_r1 ++ (wsL_bestJob_r2 ++ (wsL_bestJob_r3 ++ (wsL_bestJob_r4 ++ wsL_bestJob_r5)))) ++ wsX40 ++ wsX20 ++ wsX00 ++ wsX30 ++ wsX10 ++ (vx_atS RX4 71 "java/lang/IndexOutOfBoundsException" ["java/lang/RuntimeException", "java/lang/Exception"]).filter goodWord ++ (vx_atS RX4 55 "java/lang/IllegalStateException" ["java/lang/RuntimeException", "java/lang/Exception"]).filter goodWord)
def wsL_insertedTime_r1 : List Cond := [Cond.classLink RL 20 "java/lang/IndexOutOfBoundsException", Cond.classLink RL 15 "java/lang/IllegalStateException", Cond.methodLink RL 72 yX4_insertedTime, Cond.instanceMethod yX4_insertedTime, Cond.selects RX4 yX4_insertedTime yX4_insertedTime, Cond.initialized RX4, Cond.code yX4_insertedTime cX4_insertedTime 2 (some .int), Cond.fieldLink RX4 38 "TapeRobotics" "orders" "LTapeRobotics$Orders;", Cond.methodLink RX4 114 yX4_driveNumbered, Cond.instanceMethod yX4_driveNumbered, Cond.selects RX4 yX4_driveNumbered yX4_driveNumbered, Cond.code yX4_driveNumbered cX4_driveNumbered 3 (some (.object "TapeRobotics$Drive")), Cond.classLink RX4 67 "java/lang/IndexOutOfBoundsException", Cond.initialized "java/lang/IndexOutOfBoundsException", Cond.fieldLink RX4 21 "TapeRobotics" "drives" "[LTapeRobotics$Drive;", Cond.methodLink RX4 193 yX4_measureOrders, Cond.instanceMethod yX4_measureOrders, Cond.selects RX4 yX4_measureOrders yX4_measureOrders, Cond.code yX4_measureOrders cX4_measureOrders 2 none, Cond.fieldLink RX4 31 "TapeRobotics" "jobs" "LTapeRobotics$Jobs;", Cond.methodLink RX4 140 yX4_mountedIn, Cond.static yX4_mountedIn, Cond.code yX4_mountedIn cX4_mountedIn 2 (some (.object "TapeRobotics$Tape")), Cond.classLink RX4 51 "java/lang/IllegalStateException"]
def wsL_insertedTime_r2 : List Cond := [Cond.initialized "java/lang/IllegalStateException", Cond.instanceMethod yX2_measure, Cond.initialized RX2, Cond.selects RX2 yX2_measure yX2_measure, Cond.code yX2_measure cX2_measure 8 none, Cond.fieldLink RX2 15 "TapeRobotics$Orders" "numbers" "[I", Cond.fieldLink RX2 9 "TapeRobotics$Orders" "count" "I", Cond.fieldLink RX2 19 "TapeRobotics$Orders" "legs" "[I", Cond.instanceMethod yX1_collectAt, Cond.initialized RX1, Cond.selects RX1 yX1_collectAt yX1_collectAt, Cond.code yX1_collectAt cX1_collectAt 5 (some .int), Cond.fieldLink RX1 9 "TapeRobotics$Jobs" "count" "I", Cond.fieldLink RX1 18 "TapeRobotics$Jobs" "waitsAt" "[I", Cond.methodLink RX1 37 Lib.Math.min.name, Cond.static Lib.Math.min.name, Cond.initialized "java/lang/Math", Cond.code Lib.Math.min.name Lib.Math.min.code 2 (some .int), Cond.static yX4_at, Cond.code yX4_at cX4_at 2 (some .int), Cond.static yX4_put, Cond.code yX4_put cX4_put 3 none, Cond.instanceMethod yX1_fileOf, Cond.selects RX1 yX1_fileOf yX1_fileOf]
def wsL_insertedTime_r3 : List Cond := [Cond.code yX1_fileOf cX1_fileOf 2 (some .int), Cond.fieldLink RX1 22 "TapeRobotics$Jobs" "files" "[I", Cond.instanceMethod yX0_fileTime, Cond.initialized RX0, Cond.selects RX0 yX0_fileTime yX0_fileTime, Cond.code yX0_fileTime cX0_fileTime 5 (some .int), Cond.instanceMethod yX3_beginOf, Cond.initialized RX3, Cond.selects RX3 yX3_beginOf yX3_beginOf, Cond.code yX3_beginOf cX3_beginOf 2 (some .int), Cond.fieldLink RX3 22 "TapeRobotics$Tape" "borders" "[I", Cond.methodLink RX0 51 yX0_wayTime, Cond.instanceMethod yX0_wayTime, Cond.selects RX0 yX0_wayTime yX0_wayTime, Cond.code yX0_wayTime cX0_wayTime 6 (some .int), Cond.methodLink RX0 34 Lib.Math.abs.name, Cond.static Lib.Math.abs.name, Cond.code Lib.Math.abs.name Lib.Math.abs.code 1 (some .int), Cond.fieldLink RX0 28 "TapeRobotics$Drive" "pace" "I", Cond.fieldLink RX0 31 "TapeRobotics$Drive" "step" "I", Cond.instanceMethod yX3_distanceAlong, Cond.selects RX3 yX3_distanceAlong yX3_distanceAlong, Cond.code yX3_distanceAlong cX3_distanceAlong 4 (some .int), Cond.fieldLink RX3 32 "TapeRobotics$Tape" "length" "I"]
def wsL_insertedTime_r4 : List Cond := [Cond.methodLink RX3 57 Lib.Math.min.name, Cond.methodLink RX3 54 yX3_trackOf, Cond.instanceMethod yX3_trackOf, Cond.selects RX3 yX3_trackOf yX3_trackOf, Cond.code yX3_trackOf cX3_trackOf 3 (some .int), Cond.fieldLink RX3 29 "TapeRobotics$Tape" "tracks" "I", Cond.instanceMethod yX3_endOf, Cond.selects RX3 yX3_endOf yX3_endOf, Cond.code yX3_endOf cX3_endOf 2 (some .int), Cond.instanceMethod yX2_timeByInsertion, Cond.selects RX2 yX2_timeByInsertion yX2_timeByInsertion, Cond.code yX2_timeByInsertion cX2_timeByInsertion 2 (some .int), Cond.fieldLink RX2 28 "TapeRobotics$Orders" "order" "[I", Cond.methodLink RX2 96 yX2_insert, Cond.instanceMethod yX2_insert, Cond.selects RX2 yX2_insert yX2_insert, Cond.code yX2_insert cX2_insert 6 none, Cond.methodLink RX2 80 yX2_timeOf, Cond.instanceMethod yX2_timeOf, Cond.selects RX2 yX2_timeOf yX2_timeOf, Cond.code yX2_timeOf cX2_timeOf 7 (some .int), Cond.methodLink RX2 66 yX2_leg, Cond.instanceMethod yX2_leg, Cond.selects RX2 yX2_leg yX2_leg]
def wsL_insertedTime_r5 : List Cond := [Cond.code yX2_leg cX2_leg 3 (some .int), Cond.methodLink RX2 92 yX2_swap, Cond.instanceMethod yX2_swap, Cond.selects RX2 yX2_swap yX2_swap, Cond.code yX2_swap cX2_swap 4 none]
def wsL_insertedTime : List Cond := .codeWith yL_insertedTime cL_insertedTime 4 (some .int) [(0, 9, 12, 20), (0, 9, 15, 15)] :: ((wsL_insertedTime_r1 ++ (wsL_insertedTime_r2 ++ (wsL_insertedTime_r3 ++ (wsL_insertedTime_r4 ++ wsL_insertedTime_r5)))) ++ wsX40 ++ wsX00 ++ wsX30 ++ wsX20 ++ wsX10 ++ (vx_atS RX4 71 "java/lang/IndexOutOfBoundsException" ["java/lang/RuntimeException", "java/lang/Exception"]).filter goodWord ++ (vx_atS RX4 55 "java/lang/IllegalStateException" ["java/lang/RuntimeException", "java/lang/Exception"]).filter goodWord)
def wsL_triedTime_r1 : List Cond := [Cond.classLink RL 20 "java/lang/IndexOutOfBoundsException", Cond.classLink RL 15 "java/lang/IllegalStateException", Cond.methodLink RL 75 yX4_triedTime, Cond.instanceMethod yX4_triedTime, Cond.selects RX4 yX4_triedTime yX4_triedTime, Cond.initialized RX4, Cond.code yX4_triedTime cX4_triedTime 2 (some .int), Cond.fieldLink RX4 38 "TapeRobotics" "orders" "LTapeRobotics$Orders;", Cond.methodLink RX4 114 yX4_driveNumbered, Cond.instanceMethod yX4_driveNumbered, Cond.selects RX4 yX4_driveNumbered yX4_driveNumbered, Cond.code yX4_driveNumbered cX4_driveNumbered 3 (some (.object "TapeRobotics$Drive")), Cond.classLink RX4 67 "java/lang/IndexOutOfBoundsException", Cond.initialized "java/lang/IndexOutOfBoundsException", Cond.fieldLink RX4 21 "TapeRobotics" "drives" "[LTapeRobotics$Drive;", Cond.methodLink RX4 193 yX4_measureOrders, Cond.instanceMethod yX4_measureOrders, Cond.selects RX4 yX4_measureOrders yX4_measureOrders, Cond.code yX4_measureOrders cX4_measureOrders 2 none, Cond.fieldLink RX4 31 "TapeRobotics" "jobs" "LTapeRobotics$Jobs;", Cond.methodLink RX4 140 yX4_mountedIn, Cond.static yX4_mountedIn, Cond.code yX4_mountedIn cX4_mountedIn 2 (some (.object "TapeRobotics$Tape")), Cond.classLink RX4 51 "java/lang/IllegalStateException"]
def wsL_triedTime_r2 : List Cond := [Cond.initialized "java/lang/IllegalStateException", Cond.instanceMethod yX2_measure, Cond.initialized RX2, Cond.selects RX2 yX2_measure yX2_measure, Cond.code yX2_measure cX2_measure 8 none, Cond.fieldLink RX2 15 "TapeRobotics$Orders" "numbers" "[I", Cond.fieldLink RX2 9 "TapeRobotics$Orders" "count" "I", Cond.fieldLink RX2 19 "TapeRobotics$Orders" "legs" "[I", Cond.instanceMethod yX1_collectAt, Cond.initialized RX1, Cond.selects RX1 yX1_collectAt yX1_collectAt, Cond.code yX1_collectAt cX1_collectAt 5 (some .int), Cond.fieldLink RX1 9 "TapeRobotics$Jobs" "count" "I", Cond.fieldLink RX1 18 "TapeRobotics$Jobs" "waitsAt" "[I", Cond.methodLink RX1 37 Lib.Math.min.name, Cond.static Lib.Math.min.name, Cond.initialized "java/lang/Math", Cond.code Lib.Math.min.name Lib.Math.min.code 2 (some .int), Cond.static yX4_at, Cond.code yX4_at cX4_at 2 (some .int), Cond.static yX4_put, Cond.code yX4_put cX4_put 3 none, Cond.instanceMethod yX1_fileOf, Cond.selects RX1 yX1_fileOf yX1_fileOf]
def wsL_triedTime_r3 : List Cond := [Cond.code yX1_fileOf cX1_fileOf 2 (some .int), Cond.fieldLink RX1 22 "TapeRobotics$Jobs" "files" "[I", Cond.instanceMethod yX0_fileTime, Cond.initialized RX0, Cond.selects RX0 yX0_fileTime yX0_fileTime, Cond.code yX0_fileTime cX0_fileTime 5 (some .int), Cond.instanceMethod yX3_beginOf, Cond.initialized RX3, Cond.selects RX3 yX3_beginOf yX3_beginOf, Cond.code yX3_beginOf cX3_beginOf 2 (some .int), Cond.fieldLink RX3 22 "TapeRobotics$Tape" "borders" "[I", Cond.methodLink RX0 51 yX0_wayTime, Cond.instanceMethod yX0_wayTime, Cond.selects RX0 yX0_wayTime yX0_wayTime, Cond.code yX0_wayTime cX0_wayTime 6 (some .int), Cond.methodLink RX0 34 Lib.Math.abs.name, Cond.static Lib.Math.abs.name, Cond.code Lib.Math.abs.name Lib.Math.abs.code 1 (some .int), Cond.fieldLink RX0 28 "TapeRobotics$Drive" "pace" "I", Cond.fieldLink RX0 31 "TapeRobotics$Drive" "step" "I", Cond.instanceMethod yX3_distanceAlong, Cond.selects RX3 yX3_distanceAlong yX3_distanceAlong, Cond.code yX3_distanceAlong cX3_distanceAlong 4 (some .int), Cond.fieldLink RX3 32 "TapeRobotics$Tape" "length" "I"]
def wsL_triedTime_r4 : List Cond := [Cond.methodLink RX3 57 Lib.Math.min.name, Cond.methodLink RX3 54 yX3_trackOf, Cond.instanceMethod yX3_trackOf, Cond.selects RX3 yX3_trackOf yX3_trackOf, Cond.code yX3_trackOf cX3_trackOf 3 (some .int), Cond.fieldLink RX3 29 "TapeRobotics$Tape" "tracks" "I", Cond.instanceMethod yX3_endOf, Cond.selects RX3 yX3_endOf yX3_endOf, Cond.code yX3_endOf cX3_endOf 2 (some .int), Cond.instanceMethod yX2_timeByTrying, Cond.selects RX2 yX2_timeByTrying yX2_timeByTrying, Cond.code yX2_timeByTrying cX2_timeByTrying 3 (some .int), Cond.fieldLink RX2 28 "TapeRobotics$Orders" "order" "[I", Cond.methodLink RX2 87 Lib.Math.min.name, Cond.methodLink RX2 80 yX2_timeOf, Cond.instanceMethod yX2_timeOf, Cond.selects RX2 yX2_timeOf yX2_timeOf, Cond.code yX2_timeOf cX2_timeOf 7 (some .int), Cond.methodLink RX2 66 yX2_leg, Cond.instanceMethod yX2_leg, Cond.selects RX2 yX2_leg yX2_leg, Cond.code yX2_leg cX2_leg 3 (some .int), Cond.methodLink RX2 83 yX2_advanceOrder, Cond.instanceMethod yX2_advanceOrder]
def wsL_triedTime_r5 : List Cond := [Cond.selects RX2 yX2_advanceOrder yX2_advanceOrder, Cond.code yX2_advanceOrder cX2_advanceOrder 5 (some .boolean), Cond.methodLink RX2 92 yX2_swap, Cond.instanceMethod yX2_swap, Cond.selects RX2 yX2_swap yX2_swap, Cond.code yX2_swap cX2_swap 4 none]
def wsL_triedTime : List Cond := .codeWith yL_triedTime cL_triedTime 4 (some .int) [(0, 9, 12, 20), (0, 9, 15, 15)] :: ((wsL_triedTime_r1 ++ (wsL_triedTime_r2 ++ (wsL_triedTime_r3 ++ (wsL_triedTime_r4 ++ wsL_triedTime_r5)))) ++ wsX40 ++ wsX00 ++ wsX30 ++ wsX20 ++ wsX10 ++ (vx_atS RX4 71 "java/lang/IndexOutOfBoundsException" ["java/lang/RuntimeException", "java/lang/Exception"]).filter goodWord ++ (vx_atS RX4 55 "java/lang/IllegalStateException" ["java/lang/RuntimeException", "java/lang/Exception"]).filter goodWord)
def wsL_work_r1 : List Cond := [Cond.classLink RL 20 "java/lang/IndexOutOfBoundsException", Cond.classLink RL 15 "java/lang/IllegalStateException", Cond.methodLink RL 78 yX4_work, Cond.instanceMethod yX4_work, Cond.selects RX4 yX4_work yX4_work, Cond.initialized RX4, Cond.code yX4_work cX4_work 7 (some .int), Cond.fieldLink RX4 38 "TapeRobotics" "orders" "LTapeRobotics$Orders;", Cond.fieldLink RX4 31 "TapeRobotics" "jobs" "LTapeRobotics$Jobs;", Cond.methodLink RX4 114 yX4_driveNumbered, Cond.instanceMethod yX4_driveNumbered, Cond.selects RX4 yX4_driveNumbered yX4_driveNumbered, Cond.code yX4_driveNumbered cX4_driveNumbered 3 (some (.object "TapeRobotics$Drive")), Cond.classLink RX4 67 "java/lang/IndexOutOfBoundsException", Cond.initialized "java/lang/IndexOutOfBoundsException", Cond.fieldLink RX4 21 "TapeRobotics" "drives" "[LTapeRobotics$Drive;", Cond.methodLink RX4 140 yX4_mountedIn, Cond.static yX4_mountedIn, Cond.code yX4_mountedIn cX4_mountedIn 2 (some (.object "TapeRobotics$Tape")), Cond.classLink RX4 51 "java/lang/IllegalStateException", Cond.initialized "java/lang/IllegalStateException", Cond.methodLink RX4 150 yX4_refuseUnclean, Cond.static yX4_refuseUnclean, Cond.code yX4_refuseUnclean cX4_refuseUnclean 1 none]
def wsL_work_r2 : List Cond := [Cond.instanceMethod yX0_wantsCleaning, Cond.initialized RX0, Cond.selects RX0 yX0_wantsCleaning yX0_wantsCleaning, Cond.code yX0_wantsCleaning cX0_wantsCleaning 1 (some .boolean), Cond.fieldLink RX0 22 "TapeRobotics$Drive" "filesSinceCleaning" "I", Cond.methodLink RX4 193 yX4_measureOrders, Cond.instanceMethod yX4_measureOrders, Cond.selects RX4 yX4_measureOrders yX4_measureOrders, Cond.code yX4_measureOrders cX4_measureOrders 2 none, Cond.instanceMethod yX2_measure, Cond.initialized RX2, Cond.selects RX2 yX2_measure yX2_measure, Cond.code yX2_measure cX2_measure 8 none, Cond.fieldLink RX2 15 "TapeRobotics$Orders" "numbers" "[I", Cond.fieldLink RX2 9 "TapeRobotics$Orders" "count" "I", Cond.fieldLink RX2 19 "TapeRobotics$Orders" "legs" "[I", Cond.instanceMethod yX1_collectAt, Cond.initialized RX1, Cond.selects RX1 yX1_collectAt yX1_collectAt, Cond.code yX1_collectAt cX1_collectAt 5 (some .int), Cond.fieldLink RX1 9 "TapeRobotics$Jobs" "count" "I", Cond.fieldLink RX1 18 "TapeRobotics$Jobs" "waitsAt" "[I", Cond.methodLink RX1 37 Lib.Math.min.name, Cond.static Lib.Math.min.name]
def wsL_work_r3 : List Cond := [Cond.initialized "java/lang/Math", Cond.code Lib.Math.min.name Lib.Math.min.code 2 (some .int), Cond.static yX4_at, Cond.code yX4_at cX4_at 2 (some .int), Cond.static yX4_put, Cond.code yX4_put cX4_put 3 none, Cond.instanceMethod yX1_fileOf, Cond.selects RX1 yX1_fileOf yX1_fileOf, Cond.code yX1_fileOf cX1_fileOf 2 (some .int), Cond.fieldLink RX1 22 "TapeRobotics$Jobs" "files" "[I", Cond.instanceMethod yX0_fileTime, Cond.selects RX0 yX0_fileTime yX0_fileTime, Cond.code yX0_fileTime cX0_fileTime 5 (some .int), Cond.instanceMethod yX3_beginOf, Cond.initialized RX3, Cond.selects RX3 yX3_beginOf yX3_beginOf, Cond.code yX3_beginOf cX3_beginOf 2 (some .int), Cond.fieldLink RX3 22 "TapeRobotics$Tape" "borders" "[I", Cond.methodLink RX0 51 yX0_wayTime, Cond.instanceMethod yX0_wayTime, Cond.selects RX0 yX0_wayTime yX0_wayTime, Cond.code yX0_wayTime cX0_wayTime 6 (some .int), Cond.methodLink RX0 34 Lib.Math.abs.name, Cond.static Lib.Math.abs.name]
def wsL_work_r4 : List Cond := [Cond.code Lib.Math.abs.name Lib.Math.abs.code 1 (some .int), Cond.fieldLink RX0 28 "TapeRobotics$Drive" "pace" "I", Cond.fieldLink RX0 31 "TapeRobotics$Drive" "step" "I", Cond.instanceMethod yX3_distanceAlong, Cond.selects RX3 yX3_distanceAlong yX3_distanceAlong, Cond.code yX3_distanceAlong cX3_distanceAlong 4 (some .int), Cond.fieldLink RX3 32 "TapeRobotics$Tape" "length" "I", Cond.methodLink RX3 57 Lib.Math.min.name, Cond.methodLink RX3 54 yX3_trackOf, Cond.instanceMethod yX3_trackOf, Cond.selects RX3 yX3_trackOf yX3_trackOf, Cond.code yX3_trackOf cX3_trackOf 3 (some .int), Cond.fieldLink RX3 29 "TapeRobotics$Tape" "tracks" "I", Cond.instanceMethod yX3_endOf, Cond.selects RX3 yX3_endOf yX3_endOf, Cond.code yX3_endOf cX3_endOf 2 (some .int), Cond.instanceMethod yX2_findBest, Cond.selects RX2 yX2_findBest yX2_findBest, Cond.code yX2_findBest cX2_findBest 4 none, Cond.fieldLink RX2 22 "TapeRobotics$Orders" "rests" "[I", Cond.fieldLink RX2 25 "TapeRobotics$Orders" "best" "[I", Cond.methodLink RX2 70 yX2_restBehind, Cond.instanceMethod yX2_restBehind, Cond.selects RX2 yX2_restBehind yX2_restBehind]
def wsL_work_r5 : List Cond := [Cond.code yX2_restBehind cX2_restBehind 4 (some .int), Cond.methodLink RX2 73 yX2_bestFollower, Cond.instanceMethod yX2_bestFollower, Cond.selects RX2 yX2_bestFollower yX2_bestFollower, Cond.code yX2_bestFollower cX2_bestFollower 7 (some .int), Cond.methodLink RX2 76 yX2_restThrough, Cond.instanceMethod yX2_restThrough, Cond.selects RX2 yX2_restThrough yX2_restThrough, Cond.code yX2_restThrough cX2_restThrough 4 (some .int), Cond.methodLink RX2 66 yX2_leg, Cond.instanceMethod yX2_leg, Cond.selects RX2 yX2_leg yX2_leg, Cond.code yX2_leg cX2_leg 3 (some .int), Cond.instanceMethod yX2_bestJobAt, Cond.selects RX2 yX2_bestJobAt yX2_bestJobAt, Cond.code yX2_bestJobAt cX2_bestJobAt 2 (some .int), Cond.instanceMethod yX0_passFile, Cond.selects RX0 yX0_passFile yX0_passFile, Cond.code yX0_passFile cX0_passFile 4 (some .int), Cond.fieldLink RX0 15 "TapeRobotics$Drive" "place" "I", Cond.methodLink RX0 58 yX0_fileTime, Cond.methodLink RX0 61 yX0_spend, Cond.instanceMethod yX0_spend, Cond.selects RX0 yX0_spend yX0_spend]
def wsL_work_r6 : List Cond := [Cond.code yX0_spend cX0_spend 2 (some .int), Cond.fieldLink RX0 19 "TapeRobotics$Drive" "time" "I", Cond.instanceMethod yX1_finish, Cond.selects RX1 yX1_finish yX1_finish, Cond.code yX1_finish cX1_finish 2 none, Cond.fieldLink RX1 15 "TapeRobotics$Jobs" "doneCount" "I", Cond.instanceMethod yX1_deadlineOf, Cond.selects RX1 yX1_deadlineOf yX1_deadlineOf, Cond.code yX1_deadlineOf cX1_deadlineOf 2 (some .int), Cond.fieldLink RX1 25 "TapeRobotics$Jobs" "deadlines" "[I"]
def wsL_work : List Cond := .codeWith yL_work cL_work 4 (some .int) [(0, 9, 12, 20), (0, 9, 15, 15)] :: ((wsL_work_r1 ++ (wsL_work_r2 ++ (wsL_work_r3 ++ (wsL_work_r4 ++ (wsL_work_r5 ++ wsL_work_r6))))) ++ wsX40 ++ wsX20 ++ wsX00 ++ wsX30 ++ wsX10 ++ (vx_atS RX4 71 "java/lang/IndexOutOfBoundsException" ["java/lang/RuntimeException", "java/lang/Exception"]).filter goodWord ++ (vx_atS RX4 55 "java/lang/IllegalStateException" ["java/lang/RuntimeException", "java/lang/Exception"]).filter goodWord)
def wsL_lose_r1 : List Cond := [Cond.classLink RL 20 "java/lang/IndexOutOfBoundsException", Cond.classLink RL 15 "java/lang/IllegalStateException", Cond.methodLink RL 81 yX4_lose, Cond.instanceMethod yX4_lose, Cond.selects RX4 yX4_lose yX4_lose, Cond.initialized RX4, Cond.code yX4_lose cX4_lose 3 (some .int), Cond.classLink RX4 51 "java/lang/IllegalStateException", Cond.initialized "java/lang/IllegalStateException", Cond.methodLink RX4 63 yX4_tapeNumbered, Cond.instanceMethod yX4_tapeNumbered, Cond.selects RX4 yX4_tapeNumbered yX4_tapeNumbered, Cond.code yX4_tapeNumbered cX4_tapeNumbered 3 (some (.object "TapeRobotics$Tape")), Cond.classLink RX4 67 "java/lang/IndexOutOfBoundsException", Cond.initialized "java/lang/IndexOutOfBoundsException", Cond.fieldLink RX4 11 "TapeRobotics" "tapes" "[LTapeRobotics$Tape;", Cond.instanceMethod yX3_isInDrive, Cond.initialized RX3, Cond.selects RX3 yX3_isInDrive yX3_isInDrive, Cond.code yX3_isInDrive cX3_isInDrive 1 (some .boolean), Cond.fieldLink RX3 9 "TapeRobotics$Tape" "driveNumber" "I", Cond.methodLink RX4 237 yX4_countWithoutLabels, Cond.instanceMethod yX4_countWithoutLabels, Cond.selects RX4 yX4_countWithoutLabels yX4_countWithoutLabels]
def wsL_lose_r2 : List Cond := [Cond.code yX4_countWithoutLabels cX4_countWithoutLabels 6 (some .int)]
def wsL_lose : List Cond := .codeWith yL_lose cL_lose 4 (some .int) [(0, 9, 12, 20), (0, 9, 15, 15)] :: ((wsL_lose_r1 ++ wsL_lose_r2) ++ wsX30 ++ wsX40 ++ (vx_atS RX4 55 "java/lang/IllegalStateException" ["java/lang/RuntimeException", "java/lang/Exception"]).filter goodWord ++ (vx_atS RX4 71 "java/lang/IndexOutOfBoundsException" ["java/lang/RuntimeException", "java/lang/Exception"]).filter goodWord)
def wsL_law0_r1 : List Cond := [Cond.classLink RL 8 RX4, Cond.instantiable RX4 6, Cond.initialized RX4, Cond.classLink RL 85 RX5, Cond.instantiable RX5 26, Cond.initialized RX5, Cond.arrayClass .long, Cond.methodLink RL 84 yX4_init, Cond.instanceMethod yX4_init, Cond.code yX4_init cX4_init 1 none, Cond.methodLink RX4 1 objectInit, Cond.instanceMethod objectInit, Cond.code objectInit ⟨#[0xb1]⟩ 1 none, Cond.classLink RX4 9 RX3, Cond.fieldLink RX4 11 "TapeRobotics" "tapes" "[LTapeRobotics$Tape;", Cond.fieldLink RX4 15 "TapeRobotics" "tapeCount" "I", Cond.classLink RX4 19 RX0, Cond.fieldLink RX4 21 "TapeRobotics" "drives" "[LTapeRobotics$Drive;", Cond.fieldLink RX4 25 "TapeRobotics" "driveCount" "I", Cond.classLink RX4 28 RX1, Cond.instantiable RX1 5, Cond.initialized RX1, Cond.fieldLink RX4 31 "TapeRobotics" "jobs" "LTapeRobotics$Jobs;", Cond.classLink RX4 35 RX2]
def wsL_law0_r2 : List Cond := [Cond.instantiable RX2 6, Cond.initialized RX2, Cond.fieldLink RX4 38 "TapeRobotics" "orders" "LTapeRobotics$Orders;", Cond.instanceMethod yX1_init, Cond.code yX1_init cX1_init 1 none, Cond.methodLink RX1 3 objectInit, Cond.fieldLink RX1 9 "TapeRobotics$Jobs" "count" "I", Cond.fieldLink RX1 15 "TapeRobotics$Jobs" "doneCount" "I", Cond.arrayClass .int, Cond.fieldLink RX1 18 "TapeRobotics$Jobs" "waitsAt" "[I", Cond.fieldLink RX1 22 "TapeRobotics$Jobs" "files" "[I", Cond.fieldLink RX1 25 "TapeRobotics$Jobs" "deadlines" "[I", Cond.instanceMethod yX2_init, Cond.code yX2_init cX2_init 1 none, Cond.methodLink RX2 3 objectInit, Cond.fieldLink RX2 9 "TapeRobotics$Orders" "count" "I", Cond.fieldLink RX2 15 "TapeRobotics$Orders" "numbers" "[I", Cond.fieldLink RX2 19 "TapeRobotics$Orders" "legs" "[I", Cond.fieldLink RX2 22 "TapeRobotics$Orders" "rests" "[I", Cond.fieldLink RX2 25 "TapeRobotics$Orders" "best" "[I", Cond.fieldLink RX2 28 "TapeRobotics$Orders" "order" "[I", Cond.methodLink RL 87 yX5_init, Cond.instanceMethod yX5_init, Cond.code yX5_init cX5_init 1 none]
def wsL_law0_r3 : List Cond := [Cond.methodLink RX5 1 objectInit, Cond.fieldLink RX5 7 "TapeRoboticsModel" "tracks" "[I", Cond.fieldLink RX5 13 "TapeRoboticsModel" "length" "[I", Cond.fieldLink RX5 16 "TapeRoboticsModel" "slot" "[I", Cond.fieldLink RX5 19 "TapeRoboticsModel" "mounted" "[I", Cond.arrayClass .boolean, Cond.fieldLink RX5 22 "TapeRoboticsModel" "lost" "[Z", Cond.fieldLink RX5 26 "TapeRoboticsModel" "files" "[I", Cond.fieldLink RX5 29 "TapeRoboticsModel" "start" "[I", Cond.fieldLink RX5 32 "TapeRoboticsModel" "blocks" "[I", Cond.fieldLink RX5 35 "TapeRoboticsModel" "make" "[I", Cond.fieldLink RX5 38 "TapeRoboticsModel" "clock" "[I", Cond.fieldLink RX5 41 "TapeRoboticsModel" "count" "[I", Cond.fieldLink RX5 44 "TapeRoboticsModel" "held" "[I", Cond.fieldLink RX5 47 "TapeRoboticsModel" "stand" "[I", Cond.fieldLink RX5 50 "TapeRoboticsModel" "jobTape" "[I", Cond.fieldLink RX5 53 "TapeRoboticsModel" "jobFile" "[I", Cond.fieldLink RX5 56 "TapeRoboticsModel" "deadline" "[I", Cond.fieldLink RX5 59 "TapeRoboticsModel" "finished" "[Z", Cond.fieldLink RX5 62 "TapeRoboticsModel" "list" "[I", Cond.fieldLink RX5 65 "TapeRoboticsModel" "order" "[I", Cond.fieldLink RX5 68 "TapeRoboticsModel" "least" "[I", Cond.fieldLink RX5 71 "TapeRoboticsModel" "row" "[I", Cond.methodLink RL 88 yL_tape]
def wsL_law0_r4 : List Cond := [Cond.static yL_tape, Cond.initialized RL, Cond.codeWith yL_tape cL_tape 5 (some .int) [(0, 10, 13, 13), (0, 10, 17, 15)], Cond.classLink RL 13 "java/lang/IllegalArgumentException", Cond.classLink RL 15 "java/lang/IllegalStateException", Cond.methodLink RL 7 yX4_tape, Cond.instanceMethod yX4_tape, Cond.selects RX4 yX4_tape yX4_tape, Cond.code yX4_tape cX4_tape 3 (some .int), Cond.classLink RX4 42 "java/lang/IllegalArgumentException", Cond.initialized "java/lang/IllegalArgumentException", Cond.classLink RX4 51 "java/lang/IllegalStateException", Cond.initialized "java/lang/IllegalStateException", Cond.instantiable RX3 8, Cond.initialized RX3, Cond.methodLink RX4 56 yX4_lowestFreeSlot, Cond.instanceMethod yX4_lowestFreeSlot, Cond.selects RX4 yX4_lowestFreeSlot yX4_lowestFreeSlot, Cond.code yX4_lowestFreeSlot cX4_lowestFreeSlot 2 (some .int), Cond.methodLink RX4 76 yX4_isFree, Cond.instanceMethod yX4_isFree, Cond.selects RX4 yX4_isFree yX4_isFree, Cond.code yX4_isFree cX4_isFree 6 (some .boolean), Cond.instanceMethod yX3_init]
def wsL_law0_r5 : List Cond := [Cond.code yX3_init cX3_init 5 none, Cond.methodLink RX3 3 objectInit, Cond.fieldLink RX3 9 "TapeRobotics$Tape" "driveNumber" "I", Cond.fieldLink RX3 15 "TapeRobotics$Tape" "hasLabel" "Z", Cond.fieldLink RX3 19 "TapeRobotics$Tape" "fileCount" "I", Cond.fieldLink RX3 22 "TapeRobotics$Tape" "borders" "[I", Cond.fieldLink RX3 26 "TapeRobotics$Tape" "number" "I", Cond.fieldLink RX3 29 "TapeRobotics$Tape" "tracks" "I", Cond.fieldLink RX3 32 "TapeRobotics$Tape" "length" "I", Cond.fieldLink RX3 35 "TapeRobotics$Tape" "slot" "I", Cond.methodLink RL 93 yX5_tape, Cond.instanceMethod yX5_tape, Cond.selects RX5 yX5_tape yX5_tape, Cond.code yX5_tape cX5_tape 4 (some .int), Cond.fieldLink RX5 78 "TapeRoboticsModel" "tapes" "I", Cond.methodLink RX5 81 yX5_isIn, Cond.static yX5_isIn, Cond.code yX5_isIn cX5_isIn 3 (some .boolean), Cond.methodLink RX5 95 yX5_mayBoth, Cond.instanceMethod yX5_mayBoth, Cond.selects RX5 yX5_mayBoth yX5_mayBoth, Cond.code yX5_mayBoth cX5_mayBoth 3 (some .boolean), Cond.fieldLink RX5 74 "TapeRoboticsModel" "thrown" "I", Cond.methodLink RX5 99 yX5_isFree]
def wsL_law0_r6 : List Cond := [Cond.instanceMethod yX5_isFree, Cond.selects RX5 yX5_isFree yX5_isFree, Cond.code yX5_isFree cX5_isFree 3 (some .boolean), Cond.methodLink RL 94 yX5_thrown, Cond.instanceMethod yX5_thrown, Cond.selects RX5 yX5_thrown yX5_thrown, Cond.code yX5_thrown cX5_thrown 1 (some .int), Cond.methodLink RL 98 yL_carry, Cond.static yL_carry, Cond.codeWith yL_carry cL_carry 5 (some .int) [(0, 10, 13, 20), (0, 10, 17, 15)], Cond.classLink RL 20 "java/lang/IndexOutOfBoundsException", Cond.methodLink RL 17 yX4_carry, Cond.instanceMethod yX4_carry, Cond.selects RX4 yX4_carry yX4_carry, Cond.code yX4_carry cX4_carry 5 (some .int), Cond.classLink RX4 67 "java/lang/IndexOutOfBoundsException", Cond.initialized "java/lang/IndexOutOfBoundsException", Cond.methodLink RX4 63 yX4_tapeNumbered, Cond.instanceMethod yX4_tapeNumbered, Cond.selects RX4 yX4_tapeNumbered yX4_tapeNumbered, Cond.code yX4_tapeNumbered cX4_tapeNumbered 3 (some (.object "TapeRobotics$Tape")), Cond.instanceMethod yX3_isInDrive, Cond.selects RX3 yX3_isInDrive yX3_isInDrive, Cond.code yX3_isInDrive cX3_isInDrive 1 (some .boolean)]
def wsL_law0_r7 : List Cond := [Cond.methodLink RL 100 yX5_carry, Cond.instanceMethod yX5_carry, Cond.selects RX5 yX5_carry yX5_carry, Cond.code yX5_carry cX5_carry 5 (some .int), Cond.methodLink RX5 88 yX5_isTape, Cond.instanceMethod yX5_isTape, Cond.selects RX5 yX5_isTape yX5_isTape, Cond.code yX5_isTape cX5_isTape 2 (some .boolean), Cond.methodLink RL 101 yL_placeOf, Cond.static yL_placeOf, Cond.codeWith yL_placeOf cL_placeOf 4 (some .int) [(0, 9, 12, 20)], Cond.methodLink RL 22 yX4_placeOf, Cond.instanceMethod yX4_placeOf, Cond.selects RX4 yX4_placeOf yX4_placeOf, Cond.code yX4_placeOf cX4_placeOf 3 (some .int), Cond.methodLink RL 104 yX5_placeOf, Cond.instanceMethod yX5_placeOf, Cond.selects RX5 yX5_placeOf yX5_placeOf, Cond.code yX5_placeOf cX5_placeOf 2 (some .int), Cond.methodLink RX5 102 yX5_may, Cond.instanceMethod yX5_may, Cond.selects RX5 yX5_may yX5_may, Cond.code yX5_may cX5_may 2 (some .boolean), Cond.methodLink RL 105 yL_files]
def wsL_law0_r8 : List Cond := [Cond.static yL_files, Cond.codeWith yL_files cL_files 4 (some .int) [(0, 9, 12, 20)], Cond.methodLink RL 26 yX4_files, Cond.instanceMethod yX4_files, Cond.selects RX4 yX4_files yX4_files, Cond.code yX4_files cX4_files 2 (some .int), Cond.methodLink RL 107 yX5_files, Cond.instanceMethod yX5_files, Cond.selects RX5 yX5_files yX5_files, Cond.code yX5_files cX5_files 2 (some .int), Cond.methodLink RL 108 yL_start, Cond.static yL_start, Cond.codeWith yL_start cL_start 5 (some .int) [(0, 10, 13, 20)], Cond.methodLink RL 29 yX4_start, Cond.instanceMethod yX4_start, Cond.selects RX4 yX4_start yX4_start, Cond.code yX4_start cX4_start 4 (some .int), Cond.methodLink RX4 91 yX4_refuseMissingFile, Cond.static yX4_refuseMissingFile, Cond.code yX4_refuseMissingFile cX4_refuseMissingFile 2 none, Cond.instanceMethod yX3_beginOf, Cond.selects RX3 yX3_beginOf yX3_beginOf, Cond.code yX3_beginOf cX3_beginOf 2 (some .int), Cond.static yX4_at]
def wsL_law0_r9 : List Cond := [Cond.code yX4_at cX4_at 2 (some .int), Cond.methodLink RL 110 yX5_start, Cond.instanceMethod yX5_start, Cond.selects RX5 yX5_start yX5_start, Cond.code yX5_start cX5_start 3 (some .int), Cond.methodLink RX5 106 yX5_isFile, Cond.instanceMethod yX5_isFile, Cond.selects RX5 yX5_isFile yX5_isFile, Cond.code yX5_isFile cX5_isFile 3 (some .boolean), Cond.methodLink RL 111 yL_along, Cond.static yL_along, Cond.codeWith yL_along cL_along 5 (some .int) [(0, 10, 13, 20)], Cond.methodLink RL 32 yX4_along, Cond.instanceMethod yX4_along, Cond.selects RX4 yX4_along yX4_along, Cond.code yX4_along cX4_along 4 (some .int), Cond.instanceMethod yX3_places, Cond.selects RX3 yX3_places yX3_places, Cond.code yX3_places cX3_places 1 (some .int), Cond.instanceMethod yX3_distanceAlong, Cond.selects RX3 yX3_distanceAlong yX3_distanceAlong, Cond.code yX3_distanceAlong cX3_distanceAlong 4 (some .int), Cond.methodLink RX3 57 Lib.Math.min.name, Cond.static Lib.Math.min.name]
def wsL_law0_r10 : List Cond := [Cond.initialized "java/lang/Math", Cond.code Lib.Math.min.name Lib.Math.min.code 2 (some .int), Cond.methodLink RX3 54 yX3_trackOf, Cond.instanceMethod yX3_trackOf, Cond.selects RX3 yX3_trackOf yX3_trackOf, Cond.code yX3_trackOf cX3_trackOf 3 (some .int), Cond.methodLink RL 113 yX5_along, Cond.instanceMethod yX5_along, Cond.selects RX5 yX5_along yX5_along, Cond.code yX5_along cX5_along 3 (some .int), Cond.methodLink RX5 114 yX5_alongOf, Cond.instanceMethod yX5_alongOf, Cond.selects RX5 yX5_alongOf yX5_alongOf, Cond.code yX5_alongOf cX5_alongOf 4 (some .int), Cond.methodLink RX5 110 yX5_trackOf, Cond.instanceMethod yX5_trackOf, Cond.selects RX5 yX5_trackOf yX5_trackOf, Cond.code yX5_trackOf cX5_trackOf 3 (some .int), Cond.methodLink RL 114 yL_drive, Cond.static yL_drive, Cond.codeWith yL_drive cL_drive 4 (some .int) [(0, 9, 12, 13), (0, 9, 15, 15)], Cond.methodLink RL 35 yX4_drive, Cond.instanceMethod yX4_drive, Cond.selects RX4 yX4_drive yX4_drive]
def wsL_law0_r11 : List Cond := [Cond.code yX4_drive cX4_drive 2 (some .int), Cond.instantiable RX0 7, Cond.initialized RX0, Cond.instanceMethod yX0_init, Cond.code yX0_init cX0_init 4 none, Cond.methodLink RX0 3 objectInit, Cond.fieldLink RX0 9 "TapeRobotics$Drive" "mounted" "LTapeRobotics$Tape;", Cond.fieldLink RX0 15 "TapeRobotics$Drive" "place" "I", Cond.fieldLink RX0 19 "TapeRobotics$Drive" "time" "I", Cond.fieldLink RX0 22 "TapeRobotics$Drive" "filesSinceCleaning" "I", Cond.fieldLink RX0 25 "TapeRobotics$Drive" "number" "I", Cond.fieldLink RX0 28 "TapeRobotics$Drive" "pace" "I", Cond.fieldLink RX0 31 "TapeRobotics$Drive" "step" "I", Cond.methodLink RL 116 yX5_drive, Cond.instanceMethod yX5_drive, Cond.selects RX5 yX5_drive yX5_drive, Cond.code yX5_drive cX5_drive 2 (some .int), Cond.fieldLink RX5 85 "TapeRoboticsModel" "drives" "I", Cond.methodLink RL 117 yL_mount, Cond.static yL_mount, Cond.codeWith yL_mount cL_mount 5 (some .int) [(0, 10, 13, 20), (0, 10, 17, 15)], Cond.methodLink RL 38 yX4_mount, Cond.instanceMethod yX4_mount, Cond.selects RX4 yX4_mount yX4_mount]
def wsL_law0_r12 : List Cond := [Cond.code yX4_mount cX4_mount 5 (some .int), Cond.methodLink RX4 114 yX4_driveNumbered, Cond.instanceMethod yX4_driveNumbered, Cond.selects RX4 yX4_driveNumbered yX4_driveNumbered, Cond.code yX4_driveNumbered cX4_driveNumbered 3 (some (.object "TapeRobotics$Drive")), Cond.instanceMethod yX0_robotTime, Cond.selects RX0 yX0_robotTime yX0_robotTime, Cond.code yX0_robotTime cX0_robotTime 3 (some .int), Cond.methodLink RX0 34 Lib.Math.abs.name, Cond.static Lib.Math.abs.name, Cond.code Lib.Math.abs.name Lib.Math.abs.code 1 (some .int), Cond.instanceMethod yX0_spend, Cond.selects RX0 yX0_spend yX0_spend, Cond.code yX0_spend cX0_spend 2 (some .int), Cond.methodLink RL 119 yX5_mount, Cond.instanceMethod yX5_mount, Cond.selects RX5 yX5_mount yX5_mount, Cond.code yX5_mount cX5_mount 5 (some .int), Cond.methodLink RX5 92 yX5_isDrive, Cond.instanceMethod yX5_isDrive, Cond.selects RX5 yX5_isDrive yX5_isDrive, Cond.code yX5_isDrive cX5_isDrive 2 (some .boolean), Cond.methodLink RX5 121 yX5_robot, Cond.instanceMethod yX5_robot]
def wsL_law0_r13 : List Cond := [Cond.selects RX5 yX5_robot yX5_robot, Cond.code yX5_robot cX5_robot 3 (some .int), Cond.methodLink RX5 117 yX5_size, Cond.static yX5_size, Cond.code yX5_size cX5_size 1 (some .int), Cond.methodLink RL 120 yL_unmount, Cond.static yL_unmount, Cond.codeWith yL_unmount cL_unmount 4 (some .int) [(0, 9, 12, 20), (0, 9, 15, 15)], Cond.methodLink RL 41 yX4_unmount, Cond.instanceMethod yX4_unmount, Cond.selects RX4 yX4_unmount yX4_unmount, Cond.code yX4_unmount cX4_unmount 5 (some .int), Cond.methodLink RX4 140 yX4_mountedIn, Cond.static yX4_mountedIn, Cond.code yX4_mountedIn cX4_mountedIn 2 (some (.object "TapeRobotics$Tape")), Cond.instanceMethod yX0_wayTime, Cond.selects RX0 yX0_wayTime yX0_wayTime, Cond.code yX0_wayTime cX0_wayTime 6 (some .int), Cond.methodLink RL 122 yX5_unmount, Cond.instanceMethod yX5_unmount, Cond.selects RX5 yX5_unmount yX5_unmount, Cond.code yX5_unmount cX5_unmount 3 (some .int), Cond.methodLink RX5 124 yX5_hasTape, Cond.instanceMethod yX5_hasTape]
def wsL_law0_r14 : List Cond := [Cond.selects RX5 yX5_hasTape yX5_hasTape, Cond.code yX5_hasTape cX5_hasTape 2 (some .boolean), Cond.methodLink RX5 127 yX5_way, Cond.instanceMethod yX5_way, Cond.selects RX5 yX5_way yX5_way, Cond.code yX5_way cX5_way 10 (some .int), Cond.methodLink RL 123 yL_write, Cond.static yL_write, Cond.codeWith yL_write cL_write 5 (some .int) [(0, 10, 13, 20), (0, 10, 17, 13), (0, 10, 21, 15)], Cond.methodLink RL 44 yX4_write, Cond.instanceMethod yX4_write, Cond.selects RX4 yX4_write yX4_write, Cond.code yX4_write cX4_write 6 (some .int), Cond.methodLink RX4 150 yX4_refuseUnclean, Cond.static yX4_refuseUnclean, Cond.code yX4_refuseUnclean cX4_refuseUnclean 1 none, Cond.instanceMethod yX0_wantsCleaning, Cond.selects RX0 yX0_wantsCleaning yX0_wantsCleaning, Cond.code yX0_wantsCleaning cX0_wantsCleaning 1 (some .boolean), Cond.instanceMethod yX3_hasRoomFor, Cond.selects RX3 yX3_hasRoomFor yX3_hasRoomFor, Cond.code yX3_hasRoomFor cX3_hasRoomFor 2 (some .boolean), Cond.methodLink RX3 42 yX3_beginOf, Cond.methodLink RX3 46 yX3_places]
def wsL_law0_r15 : List Cond := [Cond.instanceMethod yX3_append, Cond.selects RX3 yX3_append yX3_append, Cond.code yX3_append cX3_append 2 (some .int), Cond.static yX4_put, Cond.code yX4_put cX4_put 3 none, Cond.instanceMethod yX0_passFile, Cond.selects RX0 yX0_passFile yX0_passFile, Cond.code yX0_passFile cX0_passFile 4 (some .int), Cond.methodLink RX0 58 yX0_fileTime, Cond.instanceMethod yX0_fileTime, Cond.selects RX0 yX0_fileTime yX0_fileTime, Cond.code yX0_fileTime cX0_fileTime 5 (some .int), Cond.methodLink RX0 51 yX0_wayTime, Cond.instanceMethod yX3_endOf, Cond.selects RX3 yX3_endOf yX3_endOf, Cond.code yX3_endOf cX3_endOf 2 (some .int), Cond.methodLink RX0 61 yX0_spend, Cond.methodLink RL 125 yX5_write, Cond.instanceMethod yX5_write, Cond.selects RX5 yX5_write yX5_write, Cond.code yX5_write cX5_write 7 (some .int), Cond.methodLink RX5 131 yX5_isClean, Cond.instanceMethod yX5_isClean, Cond.selects RX5 yX5_isClean yX5_isClean]
def wsL_law0_r16 : List Cond := [Cond.code yX5_isClean cX5_isClean 2 (some .boolean), Cond.methodLink RX5 134 yX5_behind, Cond.instanceMethod yX5_behind, Cond.selects RX5 yX5_behind yX5_behind, Cond.code yX5_behind cX5_behind 3 (some .int), Cond.methodLink RX5 137 yX5_mayAll, Cond.instanceMethod yX5_mayAll, Cond.selects RX5 yX5_mayAll yX5_mayAll, Cond.code yX5_mayAll cX5_mayAll 4 (some .boolean), Cond.methodLink RX5 141 yX5_run, Cond.instanceMethod yX5_run, Cond.selects RX5 yX5_run yX5_run, Cond.code yX5_run cX5_run 5 (some .int), Cond.methodLink RL 126 yL_read, Cond.static yL_read, Cond.codeWith yL_read cL_read 5 (some .int) [(0, 10, 13, 20), (0, 10, 17, 15)], Cond.methodLink RL 47 yX4_read, Cond.instanceMethod yX4_read, Cond.selects RX4 yX4_read yX4_read, Cond.code yX4_read cX4_read 5 (some .int), Cond.methodLink RL 128 yX5_read, Cond.instanceMethod yX5_read, Cond.selects RX5 yX5_read yX5_read, Cond.code yX5_read cX5_read 5 (some .int)]
def wsL_law0_r17 : List Cond := [Cond.methodLink RL 129 yL_clean, Cond.static yL_clean, Cond.codeWith yL_clean cL_clean 4 (some .int) [(0, 9, 12, 20), (0, 9, 15, 15)], Cond.methodLink RL 50 yX4_clean, Cond.instanceMethod yX4_clean, Cond.selects RX4 yX4_clean yX4_clean, Cond.code yX4_clean cX4_clean 4 (some .int), Cond.methodLink RL 131 yX5_clean, Cond.instanceMethod yX5_clean, Cond.selects RX5 yX5_clean yX5_clean, Cond.code yX5_clean cX5_clean 3 (some .int), Cond.methodLink RL 132 yL_clock, Cond.static yL_clock, Cond.codeWith yL_clock cL_clock 4 (some .int) [(0, 9, 12, 20)], Cond.methodLink RL 53 yX4_clock, Cond.instanceMethod yX4_clock, Cond.selects RX4 yX4_clock yX4_clock, Cond.code yX4_clock cX4_clock 2 (some .int), Cond.methodLink RL 134 yX5_clock, Cond.instanceMethod yX5_clock, Cond.selects RX5 yX5_clock yX5_clock, Cond.code yX5_clock cX5_clock 2 (some .int), Cond.methodLink RL 135 yL_stands, Cond.static yL_stands]
def wsL_law0_r18 : List Cond := [Cond.codeWith yL_stands cL_stands 4 (some .int) [(0, 9, 12, 20)], Cond.methodLink RL 56 yX4_stands, Cond.instanceMethod yX4_stands, Cond.selects RX4 yX4_stands yX4_stands, Cond.code yX4_stands cX4_stands 2 (some .int), Cond.methodLink RL 137 yX5_stands, Cond.instanceMethod yX5_stands, Cond.selects RX5 yX5_stands yX5_stands, Cond.code yX5_stands cX5_stands 2 (some .int), Cond.methodLink RL 138 yL_job, Cond.static yL_job, Cond.codeWith yL_job cL_job 6 (some .int) [(0, 12, 15, 20), (0, 12, 19, 13), (0, 12, 23, 15)], Cond.methodLink RL 59 yX4_job, Cond.instanceMethod yX4_job, Cond.selects RX4 yX4_job yX4_job, Cond.code yX4_job cX4_job 5 (some .int), Cond.constant RX4 174 (99999), Cond.instanceMethod yX1_countAt, Cond.selects RX1 yX1_countAt yX1_countAt, Cond.code yX1_countAt cX1_countAt 4 (some .int), Cond.instanceMethod yX1_enter, Cond.selects RX1 yX1_enter yX1_enter, Cond.code yX1_enter cX1_enter 4 (some .int), Cond.methodLink RL 141 yX5_job]
def wsL_law0_r19 : List Cond := [Cond.instanceMethod yX5_job, Cond.selects RX5 yX5_job yX5_job, Cond.code yX5_job cX5_job 5 (some .int), Cond.constant RX5 150 (99999), Cond.fieldLink RX5 144 "TapeRoboticsModel" "jobs" "I", Cond.methodLink RX5 151 yX5_waitingAt, Cond.instanceMethod yX5_waitingAt, Cond.selects RX5 yX5_waitingAt yX5_waitingAt, Cond.code yX5_waitingAt cX5_waitingAt 4 (some .int), Cond.methodLink RX5 147 yX5_waits, Cond.instanceMethod yX5_waits, Cond.selects RX5 yX5_waits yX5_waits, Cond.code yX5_waits cX5_waits 3 (some .boolean), Cond.methodLink RL 142 yL_waiting, Cond.static yL_waiting, Cond.codeWith yL_waiting cL_waiting 4 (some .int) [(0, 9, 12, 20)], Cond.methodLink RL 63 yX4_waiting, Cond.instanceMethod yX4_waiting, Cond.selects RX4 yX4_waiting yX4_waiting, Cond.code yX4_waiting cX4_waiting 2 (some .int), Cond.methodLink RL 144 yX5_waiting, Cond.instanceMethod yX5_waiting, Cond.selects RX5 yX5_waiting yX5_waiting, Cond.code yX5_waiting cX5_waiting 2 (some .int)]
def wsL_law0_r20 : List Cond := [Cond.methodLink RL 145 yX4_next, Cond.instanceMethod yX4_next, Cond.selects RX4 yX4_next yX4_next, Cond.code yX4_next cX4_next 11 (some .int), Cond.instanceMethod yX1_earliestDeadlineAt, Cond.selects RX1 yX1_earliestDeadlineAt yX1_earliestDeadlineAt, Cond.code yX1_earliestDeadlineAt cX1_earliestDeadlineAt 4 (some .int), Cond.constant RX1 36 (99999), Cond.methodLink RX1 37 Lib.Math.min.name, Cond.methodLink RL 148 yX5_next, Cond.instanceMethod yX5_next, Cond.selects RX5 yX5_next yX5_next, Cond.code yX5_next cX5_next 4 (some .int), Cond.methodLink RX5 155 yX5_earliest, Cond.instanceMethod yX5_earliest, Cond.selects RX5 yX5_earliest yX5_earliest, Cond.code yX5_earliest cX5_earliest 4 (some .int), Cond.constant RX5 154 (100000), Cond.methodLink RL 149 yL_bestTime, Cond.static yL_bestTime, Cond.codeWith yL_bestTime cL_bestTime 4 (some .int) [(0, 9, 12, 20), (0, 9, 15, 15)], Cond.methodLink RL 66 yX4_bestTime, Cond.instanceMethod yX4_bestTime, Cond.selects RX4 yX4_bestTime yX4_bestTime]
def wsL_law0_r21 : List Cond := [Cond.code yX4_bestTime cX4_bestTime 2 (some .int), Cond.methodLink RX4 193 yX4_measureOrders, Cond.instanceMethod yX4_measureOrders, Cond.selects RX4 yX4_measureOrders yX4_measureOrders, Cond.code yX4_measureOrders cX4_measureOrders 2 none, Cond.instanceMethod yX2_measure, Cond.selects RX2 yX2_measure yX2_measure, Cond.code yX2_measure cX2_measure 8 none, Cond.instanceMethod yX1_collectAt, Cond.selects RX1 yX1_collectAt yX1_collectAt, Cond.code yX1_collectAt cX1_collectAt 5 (some .int), Cond.instanceMethod yX1_fileOf, Cond.selects RX1 yX1_fileOf yX1_fileOf, Cond.code yX1_fileOf cX1_fileOf 2 (some .int), Cond.instanceMethod yX2_findBest, Cond.selects RX2 yX2_findBest yX2_findBest, Cond.code yX2_findBest cX2_findBest 4 none, Cond.methodLink RX2 70 yX2_restBehind, Cond.instanceMethod yX2_restBehind, Cond.selects RX2 yX2_restBehind yX2_restBehind, Cond.code yX2_restBehind cX2_restBehind 4 (some .int), Cond.methodLink RX2 73 yX2_bestFollower, Cond.instanceMethod yX2_bestFollower, Cond.selects RX2 yX2_bestFollower yX2_bestFollower]
def wsL_law0_r22 : List Cond := [Cond.code yX2_bestFollower cX2_bestFollower 7 (some .int), Cond.methodLink RX2 76 yX2_restThrough, Cond.instanceMethod yX2_restThrough, Cond.selects RX2 yX2_restThrough yX2_restThrough, Cond.code yX2_restThrough cX2_restThrough 4 (some .int), Cond.methodLink RX2 66 yX2_leg, Cond.instanceMethod yX2_leg, Cond.selects RX2 yX2_leg yX2_leg, Cond.code yX2_leg cX2_leg 3 (some .int), Cond.instanceMethod yX2_timeOf, Cond.selects RX2 yX2_timeOf yX2_timeOf, Cond.code yX2_timeOf cX2_timeOf 7 (some .int), Cond.methodLink RL 151 yX5_bestTime, Cond.instanceMethod yX5_bestTime, Cond.selects RX5 yX5_bestTime yX5_bestTime, Cond.code yX5_bestTime cX5_bestTime 2 (some .int), Cond.methodLink RX5 175 yX5_arrange, Cond.instanceMethod yX5_arrange, Cond.selects RX5 yX5_arrange yX5_arrange, Cond.code yX5_arrange cX5_arrange 7 (some .int), Cond.fieldLink RX5 164 "TapeRoboticsModel" "many" "I", Cond.constant RX5 171 (10000000), Cond.methodLink RX5 167 yX5_listJobs, Cond.instanceMethod yX5_listJobs]
def wsL_law0_r23 : List Cond := [Cond.selects RX5 yX5_listJobs yX5_listJobs, Cond.code yX5_listJobs cX5_listJobs 3 none, Cond.methodLink RX5 172 yX5_timeOf, Cond.instanceMethod yX5_timeOf, Cond.selects RX5 yX5_timeOf yX5_timeOf, Cond.code yX5_timeOf cX5_timeOf 5 (some .int), Cond.methodLink RX5 158 yX5_startOf, Cond.instanceMethod yX5_startOf, Cond.selects RX5 yX5_startOf yX5_startOf, Cond.code yX5_startOf cX5_startOf 2 (some .int), Cond.methodLink RX5 161 yX5_blocksOf, Cond.instanceMethod yX5_blocksOf, Cond.selects RX5 yX5_blocksOf yX5_blocksOf, Cond.code yX5_blocksOf cX5_blocksOf 2 (some .int), Cond.methodLink RL 152 yL_bestJob, Cond.static yL_bestJob, Cond.codeWith yL_bestJob cL_bestJob 5 (some .int) [(0, 10, 13, 20), (0, 10, 17, 15)], Cond.methodLink RL 69 yX4_bestJob, Cond.instanceMethod yX4_bestJob, Cond.selects RX4 yX4_bestJob yX4_bestJob, Cond.code yX4_bestJob cX4_bestJob 3 (some .int), Cond.instanceMethod yX2_bestJobAt, Cond.selects RX2 yX2_bestJobAt yX2_bestJobAt, Cond.code yX2_bestJobAt cX2_bestJobAt 2 (some .int)]
def wsL_law0_r24 : List Cond := [Cond.methodLink RL 154 yX5_bestJob, Cond.instanceMethod yX5_bestJob, Cond.selects RX5 yX5_bestJob yX5_bestJob, Cond.code yX5_bestJob cX5_bestJob 3 (some .int), Cond.methodLink RL 155 yL_insertedTime, Cond.static yL_insertedTime, Cond.codeWith yL_insertedTime cL_insertedTime 4 (some .int) [(0, 9, 12, 20), (0, 9, 15, 15)], Cond.methodLink RL 72 yX4_insertedTime, Cond.instanceMethod yX4_insertedTime, Cond.selects RX4 yX4_insertedTime yX4_insertedTime, Cond.code yX4_insertedTime cX4_insertedTime 2 (some .int), Cond.instanceMethod yX2_timeByInsertion, Cond.selects RX2 yX2_timeByInsertion yX2_timeByInsertion, Cond.code yX2_timeByInsertion cX2_timeByInsertion 2 (some .int), Cond.methodLink RX2 96 yX2_insert, Cond.instanceMethod yX2_insert, Cond.selects RX2 yX2_insert yX2_insert, Cond.code yX2_insert cX2_insert 6 none, Cond.methodLink RX2 80 yX2_timeOf, Cond.methodLink RX2 92 yX2_swap, Cond.instanceMethod yX2_swap, Cond.selects RX2 yX2_swap yX2_swap, Cond.code yX2_swap cX2_swap 4 none, Cond.methodLink RL 157 yX5_insertedTime]
def wsL_law0_r25 : List Cond := [Cond.instanceMethod yX5_insertedTime, Cond.selects RX5 yX5_insertedTime yX5_insertedTime, Cond.code yX5_insertedTime cX5_insertedTime 6 (some .int), Cond.methodLink RX5 178 yX5_timeWith, Cond.instanceMethod yX5_timeWith, Cond.selects RX5 yX5_timeWith yX5_timeWith, Cond.code yX5_timeWith cX5_timeWith 9 (some .int), Cond.methodLink RL 158 yL_triedTime, Cond.static yL_triedTime, Cond.codeWith yL_triedTime cL_triedTime 4 (some .int) [(0, 9, 12, 20), (0, 9, 15, 15)], Cond.methodLink RL 75 yX4_triedTime, Cond.instanceMethod yX4_triedTime, Cond.selects RX4 yX4_triedTime yX4_triedTime, Cond.code yX4_triedTime cX4_triedTime 2 (some .int), Cond.instanceMethod yX2_timeByTrying, Cond.selects RX2 yX2_timeByTrying yX2_timeByTrying, Cond.code yX2_timeByTrying cX2_timeByTrying 3 (some .int), Cond.methodLink RX2 87 Lib.Math.min.name, Cond.methodLink RX2 83 yX2_advanceOrder, Cond.instanceMethod yX2_advanceOrder, Cond.selects RX2 yX2_advanceOrder yX2_advanceOrder, Cond.code yX2_advanceOrder cX2_advanceOrder 5 (some .boolean), Cond.methodLink RL 160 yX5_triedTime, Cond.instanceMethod yX5_triedTime]
def wsL_law0_r26 : List Cond := [Cond.selects RX5 yX5_triedTime yX5_triedTime, Cond.code yX5_triedTime cX5_triedTime 2 (some .int), Cond.methodLink RX5 182 yX5_bestTime, Cond.methodLink RL 161 yL_work, Cond.static yL_work, Cond.codeWith yL_work cL_work 4 (some .int) [(0, 9, 12, 20), (0, 9, 15, 15)], Cond.methodLink RL 78 yX4_work, Cond.instanceMethod yX4_work, Cond.selects RX4 yX4_work yX4_work, Cond.code yX4_work cX4_work 7 (some .int), Cond.instanceMethod yX1_finish, Cond.selects RX1 yX1_finish yX1_finish, Cond.code yX1_finish cX1_finish 2 none, Cond.instanceMethod yX1_deadlineOf, Cond.selects RX1 yX1_deadlineOf yX1_deadlineOf, Cond.code yX1_deadlineOf cX1_deadlineOf 2 (some .int), Cond.methodLink RL 163 yX5_work, Cond.instanceMethod yX5_work, Cond.selects RX5 yX5_work yX5_work, Cond.code yX5_work cX5_work 7 (some .int), Cond.methodLink RL 164 yX4_done, Cond.instanceMethod yX4_done, Cond.selects RX4 yX4_done yX4_done, Cond.code yX4_done cX4_done 1 (some .int)]
def wsL_law0_r27 : List Cond := [Cond.methodLink RL 167 yX5_done, Cond.instanceMethod yX5_done, Cond.selects RX5 yX5_done yX5_done, Cond.code yX5_done cX5_done 3 (some .int), Cond.methodLink RL 168 yL_lose, Cond.static yL_lose, Cond.codeWith yL_lose cL_lose 4 (some .int) [(0, 9, 12, 20), (0, 9, 15, 15)], Cond.methodLink RL 81 yX4_lose, Cond.instanceMethod yX4_lose, Cond.selects RX4 yX4_lose yX4_lose, Cond.code yX4_lose cX4_lose 3 (some .int), Cond.methodLink RX4 237 yX4_countWithoutLabels, Cond.instanceMethod yX4_countWithoutLabels, Cond.selects RX4 yX4_countWithoutLabels yX4_countWithoutLabels, Cond.code yX4_countWithoutLabels cX4_countWithoutLabels 6 (some .int), Cond.methodLink RL 170 yX5_lose, Cond.instanceMethod yX5_lose, Cond.selects RX5 yX5_lose yX5_lose, Cond.code yX5_lose cX5_lose 3 (some .int), Cond.methodLink RX5 185 yX5_unlabelled, Cond.instanceMethod yX5_unlabelled, Cond.selects RX5 yX5_unlabelled yX5_unlabelled, Cond.code yX5_unlabelled cX5_unlabelled 3 (some .int), Cond.methodLink RL 171 yX4_inventory]
def wsL_law0_r28 : List Cond := [Cond.instanceMethod yX4_inventory, Cond.selects RX4 yX4_inventory yX4_inventory, Cond.code yX4_inventory cX4_inventory 6 (some .int), Cond.methodLink RX4 240 yX4_highestSlotWithTape, Cond.instanceMethod yX4_highestSlotWithTape, Cond.selects RX4 yX4_highestSlotWithTape yX4_highestSlotWithTape, Cond.code yX4_highestSlotWithTape cX4_highestSlotWithTape 6 (some .int), Cond.methodLink RX4 257 Lib.Math.max.name, Cond.static Lib.Math.max.name, Cond.code Lib.Math.max.name Lib.Math.max.code 2 (some .int), Cond.methodLink RL 174 yX5_inventory, Cond.instanceMethod yX5_inventory, Cond.selects RX5 yX5_inventory yX5_inventory, Cond.code yX5_inventory cX5_inventory 4 (some .int)]
def wsL_law0 : List Cond := (wsL_law0_r1 ++ (wsL_law0_r2 ++ (wsL_law0_r3 ++ (wsL_law0_r4 ++ (wsL_law0_r5 ++ (wsL_law0_r6 ++ (wsL_law0_r7 ++ (wsL_law0_r8 ++ (wsL_law0_r9 ++ (wsL_law0_r10 ++ (wsL_law0_r11 ++ (wsL_law0_r12 ++ (wsL_law0_r13 ++ (wsL_law0_r14 ++ (wsL_law0_r15 ++ (wsL_law0_r16 ++ (wsL_law0_r17 ++ (wsL_law0_r18 ++ (wsL_law0_r19 ++ (wsL_law0_r20 ++ (wsL_law0_r21 ++ (wsL_law0_r22 ++ (wsL_law0_r23 ++ (wsL_law0_r24 ++ (wsL_law0_r25 ++ (wsL_law0_r26 ++ (wsL_law0_r27 ++ wsL_law0_r28))))))))))))))))))))))))))) ++ wsX40 ++ wsX50 ++ wsX10 ++ wsX20 ++ wsX30 ++ wsX00 ++ ([] : List Cond)
def wsL_law : List Cond := wsL_law0 ++ (vx_atS RX4 46 "java/lang/IllegalArgumentException" ["java/lang/RuntimeException", "java/lang/Exception"]).filter goodWord ++ (vx_atS RX4 55 "java/lang/IllegalStateException" ["java/lang/RuntimeException", "java/lang/Exception"]).filter goodWord ++ (vx_atS RX4 71 "java/lang/IndexOutOfBoundsException" ["java/lang/RuntimeException", "java/lang/Exception"]).filter goodWord
end
section
theorem dX0_init_1 : decode cX0_init 1 = .ok (.invokespecial 3, 3) := by decide +kernel
theorem dX0_init_4 : decode cX0_init 4 = .ok (.aload_n 0, 1) := by decide +kernel
theorem dX0_init_5 : decode cX0_init 5 = .ok (.aconst_null, 1) := by decide +kernel
theorem dX0_init_6 : decode cX0_init 6 = .ok (.putfield 9, 3) := by decide +kernel
theorem dX0_init_9 : decode cX0_init 9 = .ok (.aload_n 0, 1) := by decide +kernel
theorem dX0_init_10 : decode cX0_init 10 = .ok (.iconst (-1), 1) := by decide +kernel
theorem dX0_init_11 : decode cX0_init 11 = .ok (.putfield 15, 3) := by decide +kernel
theorem dX0_init_14 : decode cX0_init 14 = .ok (.aload_n 0, 1) := by decide +kernel
theorem dX0_init_15 : decode cX0_init 15 = .ok (.iconst 0, 1) := by decide +kernel
theorem dX0_init_16 : decode cX0_init 16 = .ok (.putfield 19, 3) := by decide +kernel
theorem dX0_init_19 : decode cX0_init 19 = .ok (.aload_n 0, 1) := by decide +kernel
theorem dX0_init_20 : decode cX0_init 20 = .ok (.iconst 0, 1) := by decide +kernel
theorem dX0_init_21 : decode cX0_init 21 = .ok (.putfield 22, 3) := by decide +kernel
theorem dX0_init_24 : decode cX0_init 24 = .ok (.aload_n 0, 1) := by decide +kernel
theorem dX0_init_25 : decode cX0_init 25 = .ok (.iload_n 1, 1) := by decide +kernel
theorem dX0_init_26 : decode cX0_init 26 = .ok (.putfield 25, 3) := by decide +kernel
theorem dX0_init_29 : decode cX0_init 29 = .ok (.aload_n 0, 1) := by decide +kernel
theorem dX0_init_30 : decode cX0_init 30 = .ok (.iload_n 2, 1) := by decide +kernel
theorem dX0_init_31 : decode cX0_init 31 = .ok (.putfield 28, 3) := by decide +kernel
theorem dX0_init_34 : decode cX0_init 34 = .ok (.aload_n 0, 1) := by decide +kernel
theorem dX0_init_35 : decode cX0_init 35 = .ok (.iload_n 3, 1) := by decide +kernel
theorem dX0_init_36 : decode cX0_init 36 = .ok (.putfield 31, 3) := by decide +kernel
theorem dX0_init_39 : decode cX0_init 39 = .ok (.return_, 1) := by decide +kernel
theorem dX0_wantsCleaning_0 : decode cX0_wantsCleaning 0 = .ok (.aload_n 0, 1) := by decide +kernel
theorem dX0_wantsCleaning_1 : decode cX0_wantsCleaning 1 = .ok (.getfield 22, 3) := by decide +kernel
theorem dX0_wantsCleaning_4 : decode cX0_wantsCleaning 4 = .ok (.bipush 12, 2) := by decide +kernel
theorem dX0_wantsCleaning_6 : decode cX0_wantsCleaning 6 = .ok (.if_icmp .lt 7, 3) := by decide +kernel
theorem dX0_wantsCleaning_9 : decode cX0_wantsCleaning 9 = .ok (.iconst 1, 1) := by decide +kernel
theorem dX0_wantsCleaning_10 : decode cX0_wantsCleaning 10 = .ok (.goto 4, 3) := by decide +kernel
theorem dX0_wantsCleaning_13 : decode cX0_wantsCleaning 13 = .ok (.iconst 0, 1) := by decide +kernel
theorem dX0_wantsCleaning_14 : decode cX0_wantsCleaning 14 = .ok (.ireturn, 1) := by decide +kernel
theorem dX0_spend_0 : decode cX0_spend 0 = .ok (.aload_n 0, 1) := by decide +kernel
theorem dX0_spend_1 : decode cX0_spend 1 = .ok (.dup, 1) := by decide +kernel
theorem dX0_spend_2 : decode cX0_spend 2 = .ok (.getfield 19, 3) := by decide +kernel
theorem dX0_spend_5 : decode cX0_spend 5 = .ok (.iload_n 1, 1) := by decide +kernel
theorem dX0_spend_6 : decode cX0_spend 6 = .ok (.iadd, 1) := by decide +kernel
theorem dX0_spend_7 : decode cX0_spend 7 = .ok (.putfield 19, 3) := by decide +kernel
theorem dX0_spend_10 : decode cX0_spend 10 = .ok (.iload_n 1, 1) := by decide +kernel
theorem dX0_spend_11 : decode cX0_spend 11 = .ok (.ireturn, 1) := by decide +kernel
theorem dX0_robotTime_0 : decode cX0_robotTime 0 = .ok (.iconst 4, 1) := by decide +kernel
theorem dX0_robotTime_1 : decode cX0_robotTime 1 = .ok (.aload_n 0, 1) := by decide +kernel
theorem dX0_robotTime_2 : decode cX0_robotTime 2 = .ok (.getfield 25, 3) := by decide +kernel
theorem dX0_robotTime_5 : decode cX0_robotTime 5 = .ok (.imul, 1) := by decide +kernel
theorem dX0_robotTime_6 : decode cX0_robotTime 6 = .ok (.istore_n 2, 1) := by decide +kernel
theorem dX0_robotTime_7 : decode cX0_robotTime 7 = .ok (.bipush 20, 2) := by decide +kernel
theorem dX0_robotTime_9 : decode cX0_robotTime 9 = .ok (.iconst 2, 1) := by decide +kernel
theorem dX0_robotTime_10 : decode cX0_robotTime 10 = .ok (.iload_n 2, 1) := by decide +kernel
theorem dX0_robotTime_11 : decode cX0_robotTime 11 = .ok (.iload_n 1, 1) := by decide +kernel
theorem dX0_robotTime_12 : decode cX0_robotTime 12 = .ok (.isub, 1) := by decide +kernel
theorem dX0_robotTime_13 : decode cX0_robotTime 13 = .ok (.invokestatic 34, 3) := by decide +kernel
theorem dX0_robotTime_16 : decode cX0_robotTime 16 = .ok (.imul, 1) := by decide +kernel
theorem dX0_robotTime_17 : decode cX0_robotTime 17 = .ok (.iadd, 1) := by decide +kernel
theorem dX0_robotTime_18 : decode cX0_robotTime 18 = .ok (.ireturn, 1) := by decide +kernel
set_option maxRecDepth 20000 in
theorem ggX0_wayTime_X3_distanceAlong : GoodIn wsX0_wayTime wsX3_distanceAlong := goodIn_r _ [10, 11, 12, 13, 3, 14, 15, 16, 17, 8, 18, 19, 27, 28, 29, 30, 31, 32, 33, 34] (by decide +kernel) (by decide +kernel)
set_option maxRecDepth 20000 in
theorem gX0_wayTime_X3_distanceAlong_n40 : GoodIn wsX0_wayTime (wsX3_distanceAlong) := ggX0_wayTime_X3_distanceAlong
set_option maxRecDepth 20000 in
theorem ggX0_wayTime_X3_trackOf : GoodIn wsX0_wayTime wsX3_trackOf := goodIn_r _ [18, 11, 19, 27, 28, 29, 30, 31, 32, 33, 34] (by decide +kernel) (by decide +kernel)
set_option maxRecDepth 20000 in
theorem gX0_wayTime_X3_trackOf_n45 : GoodIn wsX0_wayTime (wsX3_trackOf) := ggX0_wayTime_X3_trackOf
theorem dX0_wayTime_0 : decode cX0_wayTime 0 = .ok (.aload_n 1, 1) := by decide +kernel
theorem dX0_wayTime_1 : decode cX0_wayTime 1 = .ok (.iload_n 2, 1) := by decide +kernel
theorem dX0_wayTime_2 : decode cX0_wayTime 2 = .ok (.invokevirtual 40, 3) := by decide +kernel
theorem dX0_wayTime_5 : decode cX0_wayTime 5 = .ok (.aload_n 1, 1) := by decide +kernel
theorem dX0_wayTime_6 : decode cX0_wayTime 6 = .ok (.iload_n 3, 1) := by decide +kernel
theorem dX0_wayTime_7 : decode cX0_wayTime 7 = .ok (.invokevirtual 40, 3) := by decide +kernel
theorem dX0_wayTime_10 : decode cX0_wayTime 10 = .ok (.isub, 1) := by decide +kernel
theorem dX0_wayTime_11 : decode cX0_wayTime 11 = .ok (.invokestatic 34, 3) := by decide +kernel
theorem dX0_wayTime_14 : decode cX0_wayTime 14 = .ok (.istore 4, 2) := by decide +kernel
theorem dX0_wayTime_16 : decode cX0_wayTime 16 = .ok (.aload_n 1, 1) := by decide +kernel
theorem dX0_wayTime_17 : decode cX0_wayTime 17 = .ok (.iload_n 2, 1) := by decide +kernel
theorem dX0_wayTime_18 : decode cX0_wayTime 18 = .ok (.invokevirtual 45, 3) := by decide +kernel
theorem dX0_wayTime_21 : decode cX0_wayTime 21 = .ok (.aload_n 1, 1) := by decide +kernel
theorem dX0_wayTime_22 : decode cX0_wayTime 22 = .ok (.iload_n 3, 1) := by decide +kernel
theorem dX0_wayTime_23 : decode cX0_wayTime 23 = .ok (.invokevirtual 45, 3) := by decide +kernel
theorem dX0_wayTime_26 : decode cX0_wayTime 26 = .ok (.isub, 1) := by decide +kernel
theorem dX0_wayTime_27 : decode cX0_wayTime 27 = .ok (.invokestatic 34, 3) := by decide +kernel
theorem dX0_wayTime_30 : decode cX0_wayTime 30 = .ok (.istore 5, 2) := by decide +kernel
theorem dX0_wayTime_32 : decode cX0_wayTime 32 = .ok (.iload 4, 2) := by decide +kernel
theorem dX0_wayTime_34 : decode cX0_wayTime 34 = .ok (.aload_n 0, 1) := by decide +kernel
theorem dX0_wayTime_35 : decode cX0_wayTime 35 = .ok (.getfield 28, 3) := by decide +kernel
theorem dX0_wayTime_38 : decode cX0_wayTime 38 = .ok (.imul, 1) := by decide +kernel
theorem dX0_wayTime_39 : decode cX0_wayTime 39 = .ok (.iload 5, 2) := by decide +kernel
theorem dX0_wayTime_41 : decode cX0_wayTime 41 = .ok (.aload_n 0, 1) := by decide +kernel
theorem dX0_wayTime_42 : decode cX0_wayTime 42 = .ok (.getfield 31, 3) := by decide +kernel
theorem dX0_wayTime_45 : decode cX0_wayTime 45 = .ok (.imul, 1) := by decide +kernel
theorem dX0_wayTime_46 : decode cX0_wayTime 46 = .ok (.iadd, 1) := by decide +kernel
theorem dX0_wayTime_47 : decode cX0_wayTime 47 = .ok (.ireturn, 1) := by decide +kernel
set_option maxRecDepth 20000 in
theorem ggX0_fileTime_X3_beginOf : GoodIn wsX0_fileTime wsX3_beginOf := goodIn_r _ [4, 5, 6, 7, 8, 35, 36, 37, 38, 39, 40, 41, 42] (by decide +kernel) (by decide +kernel)
set_option maxRecDepth 20000 in
theorem gX0_fileTime_X3_beginOf_n48 : GoodIn wsX0_fileTime (wsX3_beginOf) := ggX0_fileTime_X3_beginOf
set_option maxRecDepth 20000 in
theorem ggX0_fileTime_X0_wayTime : GoodIn wsX0_fileTime wsX0_wayTime := goodIn_r _ [13, 14, 15, 16, 17, 18, 19, 20, 2, 21, 22, 23, 24, 25, 26, 27, 28, 29, 30, 31, 43, 44, 45, 46, 47, 48, 49, 35, 36, 37, 38, 39, 40, 41, 42] (by decide +kernel) (by decide +kernel)
set_option maxRecDepth 20000 in
theorem gX0_fileTime_X0_wayTime : GoodIn wsX0_fileTime (wsV RX0 51 RX0 yX0_wayTime wsX0_wayTime) := goodIn_app (goodIn_of _ (by decide +kernel)) ggX0_fileTime_X0_wayTime
set_option maxRecDepth 20000 in
theorem ggX0_fileTime_X3_endOf : GoodIn wsX0_fileTime wsX3_endOf := goodIn_r _ [34, 5, 6, 7, 8, 35, 36, 37, 38, 39, 40, 41, 42] (by decide +kernel) (by decide +kernel)
set_option maxRecDepth 20000 in
theorem gX0_fileTime_X3_endOf_n55 : GoodIn wsX0_fileTime (wsX3_endOf) := ggX0_fileTime_X3_endOf
theorem dX0_fileTime_0 : decode cX0_fileTime 0 = .ok (.aload_n 1, 1) := by decide +kernel
theorem dX0_fileTime_1 : decode cX0_fileTime 1 = .ok (.iload_n 3, 1) := by decide +kernel
theorem dX0_fileTime_2 : decode cX0_fileTime 2 = .ok (.invokevirtual 48, 3) := by decide +kernel
theorem dX0_fileTime_5 : decode cX0_fileTime 5 = .ok (.istore 4, 2) := by decide +kernel
theorem dX0_fileTime_7 : decode cX0_fileTime 7 = .ok (.aload_n 0, 1) := by decide +kernel
theorem dX0_fileTime_8 : decode cX0_fileTime 8 = .ok (.aload_n 1, 1) := by decide +kernel
theorem dX0_fileTime_9 : decode cX0_fileTime 9 = .ok (.iload_n 2, 1) := by decide +kernel
theorem dX0_fileTime_10 : decode cX0_fileTime 10 = .ok (.iload 4, 2) := by decide +kernel
theorem dX0_fileTime_12 : decode cX0_fileTime 12 = .ok (.invokevirtual 51, 3) := by decide +kernel
theorem dX0_fileTime_15 : decode cX0_fileTime 15 = .ok (.iconst 3, 1) := by decide +kernel
theorem dX0_fileTime_16 : decode cX0_fileTime 16 = .ok (.aload_n 1, 1) := by decide +kernel
theorem dX0_fileTime_17 : decode cX0_fileTime 17 = .ok (.iload_n 3, 1) := by decide +kernel
theorem dX0_fileTime_18 : decode cX0_fileTime 18 = .ok (.invokevirtual 55, 3) := by decide +kernel
theorem dX0_fileTime_21 : decode cX0_fileTime 21 = .ok (.iload 4, 2) := by decide +kernel
theorem dX0_fileTime_23 : decode cX0_fileTime 23 = .ok (.isub, 1) := by decide +kernel
theorem dX0_fileTime_24 : decode cX0_fileTime 24 = .ok (.imul, 1) := by decide +kernel
theorem dX0_fileTime_25 : decode cX0_fileTime 25 = .ok (.iadd, 1) := by decide +kernel
theorem dX0_fileTime_26 : decode cX0_fileTime 26 = .ok (.ireturn, 1) := by decide +kernel
set_option maxRecDepth 20000 in
theorem ggX0_passFile_X0_fileTime : GoodIn wsX0_passFile wsX0_fileTime := goodIn_r _ [7, 8, 9, 10, 11, 12, 13, 14, 15, 16, 17, 18, 6, 19, 20, 21, 22, 23, 24, 25, 26, 27, 28, 29, 30, 31, 32, 33, 34, 35, 36, 37, 38, 39, 40, 53, 54, 55, 56, 57, 58, 59, 60, 46, 47, 48, 49, 50, 51, 52] (by decide +kernel) (by decide +kernel)
set_option maxRecDepth 20000 in
theorem gX0_passFile_X0_fileTime : GoodIn wsX0_passFile (wsV RX0 58 RX0 yX0_fileTime wsX0_fileTime) := goodIn_app (goodIn_of _ (by decide +kernel)) ggX0_passFile_X0_fileTime
set_option maxRecDepth 20000 in
theorem ggX0_passFile_X3_endOf : GoodIn wsX0_passFile wsX3_endOf := goodIn_r _ [40, 12, 13, 14, 15, 53, 54, 55, 56, 57, 58, 59, 60] (by decide +kernel) (by decide +kernel)
set_option maxRecDepth 20000 in
theorem gX0_passFile_X3_endOf_n55 : GoodIn wsX0_passFile (wsX3_endOf) := ggX0_passFile_X3_endOf
set_option maxRecDepth 20000 in
theorem ggX0_passFile_X0_spend : GoodIn wsX0_passFile wsX0_spend := goodIn_r _ [44, 45, 46, 47, 48, 49, 50, 51, 52] (by decide +kernel) (by decide +kernel)
set_option maxRecDepth 20000 in
theorem gX0_passFile_X0_spend : GoodIn wsX0_passFile (wsV RX0 61 RX0 yX0_spend wsX0_spend) := goodIn_app (goodIn_of _ (by decide +kernel)) ggX0_passFile_X0_spend
theorem dX0_passFile_0 : decode cX0_passFile 0 = .ok (.aload_n 0, 1) := by decide +kernel
theorem dX0_passFile_1 : decode cX0_passFile 1 = .ok (.aload_n 1, 1) := by decide +kernel
theorem dX0_passFile_2 : decode cX0_passFile 2 = .ok (.aload_n 0, 1) := by decide +kernel
theorem dX0_passFile_3 : decode cX0_passFile 3 = .ok (.getfield 15, 3) := by decide +kernel
theorem dX0_passFile_6 : decode cX0_passFile 6 = .ok (.iload_n 2, 1) := by decide +kernel
theorem dX0_passFile_7 : decode cX0_passFile 7 = .ok (.invokevirtual 58, 3) := by decide +kernel
theorem dX0_passFile_10 : decode cX0_passFile 10 = .ok (.istore_n 3, 1) := by decide +kernel
theorem dX0_passFile_11 : decode cX0_passFile 11 = .ok (.aload_n 0, 1) := by decide +kernel
theorem dX0_passFile_12 : decode cX0_passFile 12 = .ok (.aload_n 1, 1) := by decide +kernel
theorem dX0_passFile_13 : decode cX0_passFile 13 = .ok (.iload_n 2, 1) := by decide +kernel
theorem dX0_passFile_14 : decode cX0_passFile 14 = .ok (.invokevirtual 55, 3) := by decide +kernel
theorem dX0_passFile_17 : decode cX0_passFile 17 = .ok (.putfield 15, 3) := by decide +kernel
theorem dX0_passFile_20 : decode cX0_passFile 20 = .ok (.aload_n 0, 1) := by decide +kernel
theorem dX0_passFile_21 : decode cX0_passFile 21 = .ok (.dup, 1) := by decide +kernel
theorem dX0_passFile_22 : decode cX0_passFile 22 = .ok (.getfield 22, 3) := by decide +kernel
theorem dX0_passFile_25 : decode cX0_passFile 25 = .ok (.iconst 1, 1) := by decide +kernel
theorem dX0_passFile_26 : decode cX0_passFile 26 = .ok (.iadd, 1) := by decide +kernel
theorem dX0_passFile_27 : decode cX0_passFile 27 = .ok (.putfield 22, 3) := by decide +kernel
theorem dX0_passFile_30 : decode cX0_passFile 30 = .ok (.aload_n 0, 1) := by decide +kernel
theorem dX0_passFile_31 : decode cX0_passFile 31 = .ok (.iload_n 3, 1) := by decide +kernel
theorem dX0_passFile_32 : decode cX0_passFile 32 = .ok (.invokevirtual 61, 3) := by decide +kernel
theorem dX0_passFile_35 : decode cX0_passFile 35 = .ok (.ireturn, 1) := by decide +kernel
theorem dX1_init_0 : decode cX1_init 0 = .ok (.aload_n 0, 1) := by decide +kernel
theorem dX1_init_1 : decode cX1_init 1 = .ok (.invokespecial 3, 3) := by decide +kernel
theorem dX1_init_4 : decode cX1_init 4 = .ok (.aload_n 0, 1) := by decide +kernel
theorem dX1_init_5 : decode cX1_init 5 = .ok (.iconst 0, 1) := by decide +kernel
theorem dX1_init_6 : decode cX1_init 6 = .ok (.putfield 9, 3) := by decide +kernel
theorem dX1_init_9 : decode cX1_init 9 = .ok (.aload_n 0, 1) := by decide +kernel
theorem dX1_init_10 : decode cX1_init 10 = .ok (.iconst 0, 1) := by decide +kernel
theorem dX1_init_11 : decode cX1_init 11 = .ok (.putfield 15, 3) := by decide +kernel
theorem dX1_init_14 : decode cX1_init 14 = .ok (.aload_n 0, 1) := by decide +kernel
theorem dX1_init_15 : decode cX1_init 15 = .ok (.bipush 60, 2) := by decide +kernel
theorem dX1_init_17 : decode cX1_init 17 = .ok (.newarray .int, 2) := by decide +kernel
theorem dX1_init_19 : decode cX1_init 19 = .ok (.putfield 18, 3) := by decide +kernel
theorem dX1_init_22 : decode cX1_init 22 = .ok (.aload_n 0, 1) := by decide +kernel
theorem dX1_init_23 : decode cX1_init 23 = .ok (.bipush 60, 2) := by decide +kernel
theorem dX1_init_25 : decode cX1_init 25 = .ok (.newarray .int, 2) := by decide +kernel
theorem dX1_init_27 : decode cX1_init 27 = .ok (.putfield 22, 3) := by decide +kernel
theorem dX1_init_30 : decode cX1_init 30 = .ok (.aload_n 0, 1) := by decide +kernel
theorem dX1_init_31 : decode cX1_init 31 = .ok (.bipush 60, 2) := by decide +kernel
theorem dX1_init_33 : decode cX1_init 33 = .ok (.newarray .int, 2) := by decide +kernel
theorem dX1_init_35 : decode cX1_init 35 = .ok (.putfield 25, 3) := by decide +kernel
theorem dX1_init_38 : decode cX1_init 38 = .ok (.return_, 1) := by decide +kernel
set_option maxRecDepth 20000 in
theorem ggX1_enter_X4_put : GoodIn wsX1_enter wsX4_put := goodIn_r _ [7] (by decide +kernel) (by decide +kernel)
set_option maxRecDepth 20000 in
theorem gX1_enter_X4_put_n28 : GoodIn wsX1_enter (wsX4_put) := ggX1_enter_X4_put
theorem dX1_enter_0 : decode cX1_enter 0 = .ok (.aload_n 0, 1) := by decide +kernel
theorem dX1_enter_1 : decode cX1_enter 1 = .ok (.getfield 18, 3) := by decide +kernel
theorem dX1_enter_4 : decode cX1_enter 4 = .ok (.aload_n 0, 1) := by decide +kernel
theorem dX1_enter_5 : decode cX1_enter 5 = .ok (.getfield 9, 3) := by decide +kernel
theorem dX1_enter_8 : decode cX1_enter 8 = .ok (.iload_n 1, 1) := by decide +kernel
theorem dX1_enter_9 : decode cX1_enter 9 = .ok (.invokestatic 28, 3) := by decide +kernel
theorem dX1_enter_12 : decode cX1_enter 12 = .ok (.aload_n 0, 1) := by decide +kernel
theorem dX1_enter_13 : decode cX1_enter 13 = .ok (.getfield 22, 3) := by decide +kernel
theorem dX1_enter_16 : decode cX1_enter 16 = .ok (.aload_n 0, 1) := by decide +kernel
theorem dX1_enter_17 : decode cX1_enter 17 = .ok (.getfield 9, 3) := by decide +kernel
theorem dX1_enter_20 : decode cX1_enter 20 = .ok (.iload_n 2, 1) := by decide +kernel
theorem dX1_enter_21 : decode cX1_enter 21 = .ok (.invokestatic 28, 3) := by decide +kernel
theorem dX1_enter_24 : decode cX1_enter 24 = .ok (.aload_n 0, 1) := by decide +kernel
theorem dX1_enter_25 : decode cX1_enter 25 = .ok (.getfield 25, 3) := by decide +kernel
theorem dX1_enter_28 : decode cX1_enter 28 = .ok (.aload_n 0, 1) := by decide +kernel
theorem dX1_enter_29 : decode cX1_enter 29 = .ok (.getfield 9, 3) := by decide +kernel
theorem dX1_enter_32 : decode cX1_enter 32 = .ok (.iload_n 3, 1) := by decide +kernel
theorem dX1_enter_33 : decode cX1_enter 33 = .ok (.invokestatic 28, 3) := by decide +kernel
theorem dX1_enter_36 : decode cX1_enter 36 = .ok (.aload_n 0, 1) := by decide +kernel
theorem dX1_enter_37 : decode cX1_enter 37 = .ok (.dup, 1) := by decide +kernel
theorem dX1_enter_38 : decode cX1_enter 38 = .ok (.getfield 9, 3) := by decide +kernel
theorem dX1_enter_41 : decode cX1_enter 41 = .ok (.iconst 1, 1) := by decide +kernel
theorem dX1_enter_42 : decode cX1_enter 42 = .ok (.iadd, 1) := by decide +kernel
theorem dX1_enter_43 : decode cX1_enter 43 = .ok (.putfield 9, 3) := by decide +kernel
theorem dX1_enter_46 : decode cX1_enter 46 = .ok (.aload_n 0, 1) := by decide +kernel
theorem dX1_enter_47 : decode cX1_enter 47 = .ok (.getfield 9, 3) := by decide +kernel
theorem dX1_enter_50 : decode cX1_enter 50 = .ok (.iconst 1, 1) := by decide +kernel
theorem dX1_enter_51 : decode cX1_enter 51 = .ok (.isub, 1) := by decide +kernel
theorem dX1_enter_52 : decode cX1_enter 52 = .ok (.ireturn, 1) := by decide +kernel
set_option maxRecDepth 20000 in
theorem ggX1_finish_X4_put : GoodIn wsX1_finish wsX4_put := goodIn_r _ [5] (by decide +kernel) (by decide +kernel)
set_option maxRecDepth 20000 in
theorem gX1_finish_X4_put_n28 : GoodIn wsX1_finish (wsX4_put) := ggX1_finish_X4_put
theorem dX1_finish_0 : decode cX1_finish 0 = .ok (.aload_n 0, 1) := by decide +kernel
theorem dX1_finish_1 : decode cX1_finish 1 = .ok (.getfield 18, 3) := by decide +kernel
theorem dX1_finish_4 : decode cX1_finish 4 = .ok (.iload_n 1, 1) := by decide +kernel
theorem dX1_finish_5 : decode cX1_finish 5 = .ok (.iconst (-1), 1) := by decide +kernel
theorem dX1_finish_6 : decode cX1_finish 6 = .ok (.invokestatic 28, 3) := by decide +kernel
theorem dX1_finish_9 : decode cX1_finish 9 = .ok (.aload_n 0, 1) := by decide +kernel
theorem dX1_finish_10 : decode cX1_finish 10 = .ok (.dup, 1) := by decide +kernel
theorem dX1_finish_11 : decode cX1_finish 11 = .ok (.getfield 15, 3) := by decide +kernel
theorem dX1_finish_14 : decode cX1_finish 14 = .ok (.iconst 1, 1) := by decide +kernel
theorem dX1_finish_15 : decode cX1_finish 15 = .ok (.iadd, 1) := by decide +kernel
theorem dX1_finish_16 : decode cX1_finish 16 = .ok (.putfield 15, 3) := by decide +kernel
theorem dX1_finish_19 : decode cX1_finish 19 = .ok (.return_, 1) := by decide +kernel
set_option maxRecDepth 20000 in
theorem ggX1_fileOf_X4_at : GoodIn wsX1_fileOf wsX4_at := goodIn_r _ [4] (by decide +kernel) (by decide +kernel)
set_option maxRecDepth 20000 in
theorem gX1_fileOf_X4_at_n32 : GoodIn wsX1_fileOf (wsX4_at) := ggX1_fileOf_X4_at
theorem dX1_fileOf_0 : decode cX1_fileOf 0 = .ok (.aload_n 0, 1) := by decide +kernel
theorem dX1_fileOf_1 : decode cX1_fileOf 1 = .ok (.getfield 22, 3) := by decide +kernel
theorem dX1_fileOf_4 : decode cX1_fileOf 4 = .ok (.iload_n 1, 1) := by decide +kernel
theorem dX1_fileOf_5 : decode cX1_fileOf 5 = .ok (.invokestatic 32, 3) := by decide +kernel
theorem dX1_fileOf_8 : decode cX1_fileOf 8 = .ok (.ireturn, 1) := by decide +kernel
set_option maxRecDepth 20000 in
theorem ggX1_deadlineOf_X4_at : GoodIn wsX1_deadlineOf wsX4_at := goodIn_r _ [4] (by decide +kernel) (by decide +kernel)
set_option maxRecDepth 20000 in
theorem gX1_deadlineOf_X4_at_n32 : GoodIn wsX1_deadlineOf (wsX4_at) := ggX1_deadlineOf_X4_at
theorem dX1_deadlineOf_0 : decode cX1_deadlineOf 0 = .ok (.aload_n 0, 1) := by decide +kernel
theorem dX1_deadlineOf_1 : decode cX1_deadlineOf 1 = .ok (.getfield 25, 3) := by decide +kernel
theorem dX1_deadlineOf_4 : decode cX1_deadlineOf 4 = .ok (.iload_n 1, 1) := by decide +kernel
theorem dX1_deadlineOf_5 : decode cX1_deadlineOf 5 = .ok (.invokestatic 32, 3) := by decide +kernel
theorem dX1_deadlineOf_8 : decode cX1_deadlineOf 8 = .ok (.ireturn, 1) := by decide +kernel
set_option maxRecDepth 20000 in
theorem ggX1_countAt_X4_at : GoodIn wsX1_countAt wsX4_at := goodIn_r _ [5] (by decide +kernel) (by decide +kernel)
set_option maxRecDepth 20000 in
theorem gX1_countAt_X4_at_n32 : GoodIn wsX1_countAt (wsX4_at) := ggX1_countAt_X4_at
theorem dX1_countAt_0 : decode cX1_countAt 0 = .ok (.iconst 0, 1) := by decide +kernel
theorem dX1_countAt_1 : decode cX1_countAt 1 = .ok (.istore_n 2, 1) := by decide +kernel
theorem dX1_countAt_2 : decode cX1_countAt 2 = .ok (.iconst 0, 1) := by decide +kernel
theorem dX1_countAt_3 : decode cX1_countAt 3 = .ok (.istore_n 3, 1) := by decide +kernel
theorem dX1_countAt_4 : decode cX1_countAt 4 = .ok (.iload_n 3, 1) := by decide +kernel
theorem dX1_countAt_5 : decode cX1_countAt 5 = .ok (.aload_n 0, 1) := by decide +kernel
theorem dX1_countAt_6 : decode cX1_countAt 6 = .ok (.getfield 9, 3) := by decide +kernel
theorem dX1_countAt_9 : decode cX1_countAt 9 = .ok (.if_icmp .ge 24, 3) := by decide +kernel
theorem dX1_countAt_12 : decode cX1_countAt 12 = .ok (.aload_n 0, 1) := by decide +kernel
theorem dX1_countAt_13 : decode cX1_countAt 13 = .ok (.getfield 18, 3) := by decide +kernel
theorem dX1_countAt_16 : decode cX1_countAt 16 = .ok (.iload_n 3, 1) := by decide +kernel
theorem dX1_countAt_17 : decode cX1_countAt 17 = .ok (.invokestatic 32, 3) := by decide +kernel
theorem dX1_countAt_20 : decode cX1_countAt 20 = .ok (.iload_n 1, 1) := by decide +kernel
theorem dX1_countAt_21 : decode cX1_countAt 21 = .ok (.if_icmp .ne 6, 3) := by decide +kernel
theorem dX1_countAt_24 : decode cX1_countAt 24 = .ok (.iinc 2 1, 3) := by decide +kernel
theorem dX1_countAt_27 : decode cX1_countAt 27 = .ok (.iinc 3 1, 3) := by decide +kernel
theorem dX1_countAt_30 : decode cX1_countAt 30 = .ok (.goto (-26), 3) := by decide +kernel
theorem dX1_countAt_33 : decode cX1_countAt 33 = .ok (.iload_n 2, 1) := by decide +kernel
theorem dX1_countAt_34 : decode cX1_countAt 34 = .ok (.ireturn, 1) := by decide +kernel
set_option maxRecDepth 20000 in
theorem ggX1_earliestDeadlineAt_X4_at : GoodIn wsX1_earliestDeadlineAt wsX4_at := goodIn_r _ [11] (by decide +kernel) (by decide +kernel)
set_option maxRecDepth 20000 in
theorem gX1_earliestDeadlineAt_X4_at_n32 : GoodIn wsX1_earliestDeadlineAt (wsX4_at) := ggX1_earliestDeadlineAt_X4_at
theorem dX1_earliestDeadlineAt_0 : decode cX1_earliestDeadlineAt 0 = .ok (.ldc 36, 2) := by decide +kernel
theorem dX1_earliestDeadlineAt_2 : decode cX1_earliestDeadlineAt 2 = .ok (.istore_n 2, 1) := by decide +kernel
theorem dX1_earliestDeadlineAt_3 : decode cX1_earliestDeadlineAt 3 = .ok (.iconst 0, 1) := by decide +kernel
theorem dX1_earliestDeadlineAt_4 : decode cX1_earliestDeadlineAt 4 = .ok (.istore_n 3, 1) := by decide +kernel
theorem dX1_earliestDeadlineAt_5 : decode cX1_earliestDeadlineAt 5 = .ok (.iload_n 3, 1) := by decide +kernel
theorem dX1_earliestDeadlineAt_6 : decode cX1_earliestDeadlineAt 6 = .ok (.aload_n 0, 1) := by decide +kernel
theorem dX1_earliestDeadlineAt_7 : decode cX1_earliestDeadlineAt 7 = .ok (.getfield 9, 3) := by decide +kernel
theorem dX1_earliestDeadlineAt_10 : decode cX1_earliestDeadlineAt 10 = .ok (.if_icmp .ge 34, 3) := by decide +kernel
theorem dX1_earliestDeadlineAt_13 : decode cX1_earliestDeadlineAt 13 = .ok (.aload_n 0, 1) := by decide +kernel
theorem dX1_earliestDeadlineAt_14 : decode cX1_earliestDeadlineAt 14 = .ok (.getfield 18, 3) := by decide +kernel
theorem dX1_earliestDeadlineAt_17 : decode cX1_earliestDeadlineAt 17 = .ok (.iload_n 3, 1) := by decide +kernel
theorem dX1_earliestDeadlineAt_18 : decode cX1_earliestDeadlineAt 18 = .ok (.invokestatic 32, 3) := by decide +kernel
theorem dX1_earliestDeadlineAt_21 : decode cX1_earliestDeadlineAt 21 = .ok (.iload_n 1, 1) := by decide +kernel
theorem dX1_earliestDeadlineAt_22 : decode cX1_earliestDeadlineAt 22 = .ok (.if_icmp .ne 16, 3) := by decide +kernel
theorem dX1_earliestDeadlineAt_25 : decode cX1_earliestDeadlineAt 25 = .ok (.iload_n 2, 1) := by decide +kernel
theorem dX1_earliestDeadlineAt_26 : decode cX1_earliestDeadlineAt 26 = .ok (.aload_n 0, 1) := by decide +kernel
theorem dX1_earliestDeadlineAt_27 : decode cX1_earliestDeadlineAt 27 = .ok (.getfield 25, 3) := by decide +kernel
theorem dX1_earliestDeadlineAt_30 : decode cX1_earliestDeadlineAt 30 = .ok (.iload_n 3, 1) := by decide +kernel
theorem dX1_earliestDeadlineAt_31 : decode cX1_earliestDeadlineAt 31 = .ok (.invokestatic 32, 3) := by decide +kernel
theorem dX1_earliestDeadlineAt_34 : decode cX1_earliestDeadlineAt 34 = .ok (.invokestatic 37, 3) := by decide +kernel
theorem dX1_earliestDeadlineAt_37 : decode cX1_earliestDeadlineAt 37 = .ok (.istore_n 2, 1) := by decide +kernel
theorem dX1_earliestDeadlineAt_38 : decode cX1_earliestDeadlineAt 38 = .ok (.iinc 3 1, 3) := by decide +kernel
theorem dX1_earliestDeadlineAt_41 : decode cX1_earliestDeadlineAt 41 = .ok (.goto (-36), 3) := by decide +kernel
theorem dX1_earliestDeadlineAt_44 : decode cX1_earliestDeadlineAt 44 = .ok (.iload_n 2, 1) := by decide +kernel
theorem dX1_earliestDeadlineAt_45 : decode cX1_earliestDeadlineAt 45 = .ok (.ireturn, 1) := by decide +kernel
set_option maxRecDepth 20000 in
theorem ggX1_collectAt_X4_at : GoodIn wsX1_collectAt wsX4_at := goodIn_r _ [9] (by decide +kernel) (by decide +kernel)
set_option maxRecDepth 20000 in
theorem gX1_collectAt_X4_at_n32 : GoodIn wsX1_collectAt (wsX4_at) := ggX1_collectAt_X4_at
set_option maxRecDepth 20000 in
theorem ggX1_collectAt_X4_put : GoodIn wsX1_collectAt wsX4_put := goodIn_r _ [11] (by decide +kernel) (by decide +kernel)
set_option maxRecDepth 20000 in
theorem gX1_collectAt_X4_put_n28 : GoodIn wsX1_collectAt (wsX4_put) := ggX1_collectAt_X4_put
theorem dX1_collectAt_0 : decode cX1_collectAt 0 = .ok (.iconst 0, 1) := by decide +kernel
theorem dX1_collectAt_1 : decode cX1_collectAt 1 = .ok (.istore_n 3, 1) := by decide +kernel
theorem dX1_collectAt_2 : decode cX1_collectAt 2 = .ok (.iconst 0, 1) := by decide +kernel
theorem dX1_collectAt_3 : decode cX1_collectAt 3 = .ok (.istore 4, 2) := by decide +kernel
theorem dX1_collectAt_5 : decode cX1_collectAt 5 = .ok (.iload 4, 2) := by decide +kernel
theorem dX1_collectAt_7 : decode cX1_collectAt 7 = .ok (.aload_n 0, 1) := by decide +kernel
theorem dX1_collectAt_8 : decode cX1_collectAt 8 = .ok (.getfield 9, 3) := by decide +kernel
theorem dX1_collectAt_11 : decode cX1_collectAt 11 = .ok (.if_icmp .ge 32, 3) := by decide +kernel
theorem dX1_collectAt_14 : decode cX1_collectAt 14 = .ok (.aload_n 0, 1) := by decide +kernel
theorem dX1_collectAt_15 : decode cX1_collectAt 15 = .ok (.getfield 18, 3) := by decide +kernel
theorem dX1_collectAt_18 : decode cX1_collectAt 18 = .ok (.iload 4, 2) := by decide +kernel
theorem dX1_collectAt_20 : decode cX1_collectAt 20 = .ok (.invokestatic 32, 3) := by decide +kernel
theorem dX1_collectAt_23 : decode cX1_collectAt 23 = .ok (.iload_n 1, 1) := by decide +kernel
theorem dX1_collectAt_24 : decode cX1_collectAt 24 = .ok (.if_icmp .ne 13, 3) := by decide +kernel
theorem dX1_collectAt_27 : decode cX1_collectAt 27 = .ok (.aload_n 2, 1) := by decide +kernel
theorem dX1_collectAt_28 : decode cX1_collectAt 28 = .ok (.iload_n 3, 1) := by decide +kernel
theorem dX1_collectAt_29 : decode cX1_collectAt 29 = .ok (.iload 4, 2) := by decide +kernel
theorem dX1_collectAt_31 : decode cX1_collectAt 31 = .ok (.invokestatic 28, 3) := by decide +kernel
theorem dX1_collectAt_34 : decode cX1_collectAt 34 = .ok (.iinc 3 1, 3) := by decide +kernel
theorem dX1_collectAt_37 : decode cX1_collectAt 37 = .ok (.iinc 4 1, 3) := by decide +kernel
theorem dX1_collectAt_40 : decode cX1_collectAt 40 = .ok (.goto (-35), 3) := by decide +kernel
theorem dX1_collectAt_43 : decode cX1_collectAt 43 = .ok (.iload_n 3, 1) := by decide +kernel
theorem dX1_collectAt_44 : decode cX1_collectAt 44 = .ok (.aload_n 2, 1) := by decide +kernel
theorem dX1_collectAt_45 : decode cX1_collectAt 45 = .ok (.arraylength, 1) := by decide +kernel
theorem dX1_collectAt_46 : decode cX1_collectAt 46 = .ok (.invokestatic 37, 3) := by decide +kernel
theorem dX1_collectAt_49 : decode cX1_collectAt 49 = .ok (.ireturn, 1) := by decide +kernel
theorem dX2_init_0 : decode cX2_init 0 = .ok (.aload_n 0, 1) := by decide +kernel
theorem dX2_init_1 : decode cX2_init 1 = .ok (.invokespecial 3, 3) := by decide +kernel
theorem dX2_init_4 : decode cX2_init 4 = .ok (.aload_n 0, 1) := by decide +kernel
theorem dX2_init_5 : decode cX2_init 5 = .ok (.iconst 0, 1) := by decide +kernel
theorem dX2_init_6 : decode cX2_init 6 = .ok (.putfield 9, 3) := by decide +kernel
theorem dX2_init_9 : decode cX2_init 9 = .ok (.aload_n 0, 1) := by decide +kernel
theorem dX2_init_10 : decode cX2_init 10 = .ok (.bipush 7, 2) := by decide +kernel
theorem dX2_init_12 : decode cX2_init 12 = .ok (.newarray .int, 2) := by decide +kernel
theorem dX2_init_14 : decode cX2_init 14 = .ok (.putfield 15, 3) := by decide +kernel
theorem dX2_init_17 : decode cX2_init 17 = .ok (.aload_n 0, 1) := by decide +kernel
theorem dX2_init_18 : decode cX2_init 18 = .ok (.bipush 56, 2) := by decide +kernel
theorem dX2_init_20 : decode cX2_init 20 = .ok (.newarray .int, 2) := by decide +kernel
theorem dX2_init_22 : decode cX2_init 22 = .ok (.putfield 19, 3) := by decide +kernel
theorem dX2_init_25 : decode cX2_init 25 = .ok (.aload_n 0, 1) := by decide +kernel
theorem dX2_init_26 : decode cX2_init 26 = .ok (.sipush 896, 3) := by decide +kernel
theorem dX2_init_29 : decode cX2_init 29 = .ok (.newarray .int, 2) := by decide +kernel
theorem dX2_init_31 : decode cX2_init 31 = .ok (.putfield 22, 3) := by decide +kernel
theorem dX2_init_34 : decode cX2_init 34 = .ok (.aload_n 0, 1) := by decide +kernel
theorem dX2_init_35 : decode cX2_init 35 = .ok (.bipush 7, 2) := by decide +kernel
theorem dX2_init_37 : decode cX2_init 37 = .ok (.newarray .int, 2) := by decide +kernel
theorem dX2_init_39 : decode cX2_init 39 = .ok (.putfield 25, 3) := by decide +kernel
theorem dX2_init_42 : decode cX2_init 42 = .ok (.aload_n 0, 1) := by decide +kernel
theorem dX2_init_43 : decode cX2_init 43 = .ok (.bipush 7, 2) := by decide +kernel
theorem dX2_init_45 : decode cX2_init 45 = .ok (.newarray .int, 2) := by decide +kernel
theorem dX2_init_47 : decode cX2_init 47 = .ok (.putfield 28, 3) := by decide +kernel
theorem dX2_init_50 : decode cX2_init 50 = .ok (.return_, 1) := by decide +kernel
set_option maxRecDepth 20000 in
theorem ggX2_measure_X1_collectAt : GoodIn wsX2_measure wsX1_collectAt := goodIn_r _ [7, 8, 9, 10, 11, 12, 13, 14, 15, 16, 17, 18, 75, 76, 77, 78, 79] (by decide +kernel) (by decide +kernel)
set_option maxRecDepth 20000 in
theorem gX2_measure_X1_collectAt_n36 : GoodIn wsX2_measure (wsX1_collectAt) := ggX2_measure_X1_collectAt
set_option maxRecDepth 20000 in
theorem ggX2_measure_X4_at : GoodIn wsX2_measure wsX4_at := goodIn_r _ [16] (by decide +kernel) (by decide +kernel)
set_option maxRecDepth 20000 in
theorem gX2_measure_X4_at_n42 : GoodIn wsX2_measure (wsX4_at) := ggX2_measure_X4_at
set_option maxRecDepth 20000 in
theorem ggX2_measure_X1_fileOf : GoodIn wsX2_measure wsX1_fileOf := goodIn_r _ [21, 22, 14, 15, 16, 75, 76, 77, 78, 79] (by decide +kernel) (by decide +kernel)
set_option maxRecDepth 20000 in
theorem gX2_measure_X1_fileOf_n46 : GoodIn wsX2_measure (wsX1_fileOf) := ggX2_measure_X1_fileOf
set_option maxRecDepth 20000 in
theorem ggX2_measure_X0_fileTime : GoodIn wsX2_measure wsX0_fileTime := goodIn_r _ [26, 27, 28, 29, 30, 31, 14, 15, 16, 32, 33, 34, 24, 35, 36, 37, 12, 38, 39, 40, 41, 42, 43, 44, 45, 11, 13, 46, 47, 48, 49, 50, 51, 52, 53, 54, 55, 56, 57, 58, 59, 60, 61, 68, 69, 70, 71, 72, 73, 74] (by decide +kernel) (by decide +kernel)
set_option maxRecDepth 20000 in
theorem gX2_measure_X0_fileTime_n55 : GoodIn wsX2_measure (wsX0_fileTime) := ggX2_measure_X0_fileTime
set_option maxRecDepth 20000 in
theorem ggX2_measure_X4_put : GoodIn wsX2_measure wsX4_put := goodIn_r _ [18] (by decide +kernel) (by decide +kernel)
set_option maxRecDepth 20000 in
theorem gX2_measure_X4_put_n59 : GoodIn wsX2_measure (wsX4_put) := ggX2_measure_X4_put
set_option maxRecDepth 20000 in
theorem ggX2_measure_X3_endOf : GoodIn wsX2_measure wsX3_endOf := goodIn_r _ [53, 31, 14, 15, 16, 54, 55, 56, 57, 58, 59, 60, 61] (by decide +kernel) (by decide +kernel)
set_option maxRecDepth 20000 in
theorem gX2_measure_X3_endOf_n63 : GoodIn wsX2_measure (wsX3_endOf) := ggX2_measure_X3_endOf
theorem dX2_measure_0 : decode cX2_measure 0 = .ok (.aload_n 0, 1) := by decide +kernel
theorem dX2_measure_1 : decode cX2_measure 1 = .ok (.aload_n 3, 1) := by decide +kernel
theorem dX2_measure_2 : decode cX2_measure 2 = .ok (.aload_n 2, 1) := by decide +kernel
theorem dX2_measure_3 : decode cX2_measure 3 = .ok (.getfield 31, 3) := by decide +kernel
theorem dX2_measure_6 : decode cX2_measure 6 = .ok (.aload_n 0, 1) := by decide +kernel
theorem dX2_measure_7 : decode cX2_measure 7 = .ok (.getfield 15, 3) := by decide +kernel
theorem dX2_measure_10 : decode cX2_measure 10 = .ok (.invokevirtual 36, 3) := by decide +kernel
theorem dX2_measure_13 : decode cX2_measure 13 = .ok (.putfield 9, 3) := by decide +kernel
theorem dX2_measure_16 : decode cX2_measure 16 = .ok (.iconst 0, 1) := by decide +kernel
theorem dX2_measure_17 : decode cX2_measure 17 = .ok (.istore 4, 2) := by decide +kernel
theorem dX2_measure_19 : decode cX2_measure 19 = .ok (.iload 4, 2) := by decide +kernel
theorem dX2_measure_21 : decode cX2_measure 21 = .ok (.aload_n 0, 1) := by decide +kernel
theorem dX2_measure_22 : decode cX2_measure 22 = .ok (.getfield 9, 3) := by decide +kernel
theorem dX2_measure_25 : decode cX2_measure 25 = .ok (.if_icmp .ge 108, 3) := by decide +kernel
theorem dX2_measure_28 : decode cX2_measure 28 = .ok (.aload_n 3, 1) := by decide +kernel
theorem dX2_measure_29 : decode cX2_measure 29 = .ok (.aload_n 0, 1) := by decide +kernel
theorem dX2_measure_30 : decode cX2_measure 30 = .ok (.getfield 15, 3) := by decide +kernel
theorem dX2_measure_33 : decode cX2_measure 33 = .ok (.iload 4, 2) := by decide +kernel
theorem dX2_measure_35 : decode cX2_measure 35 = .ok (.invokestatic 42, 3) := by decide +kernel
theorem dX2_measure_38 : decode cX2_measure 38 = .ok (.invokevirtual 46, 3) := by decide +kernel
theorem dX2_measure_41 : decode cX2_measure 41 = .ok (.istore 5, 2) := by decide +kernel
theorem dX2_measure_43 : decode cX2_measure 43 = .ok (.aload_n 0, 1) := by decide +kernel
theorem dX2_measure_44 : decode cX2_measure 44 = .ok (.getfield 19, 3) := by decide +kernel
theorem dX2_measure_47 : decode cX2_measure 47 = .ok (.bipush 49, 2) := by decide +kernel
theorem dX2_measure_49 : decode cX2_measure 49 = .ok (.iload 4, 2) := by decide +kernel
theorem dX2_measure_51 : decode cX2_measure 51 = .ok (.iadd, 1) := by decide +kernel
theorem dX2_measure_52 : decode cX2_measure 52 = .ok (.aload_n 1, 1) := by decide +kernel
theorem dX2_measure_53 : decode cX2_measure 53 = .ok (.aload_n 2, 1) := by decide +kernel
theorem dX2_measure_54 : decode cX2_measure 54 = .ok (.aload_n 1, 1) := by decide +kernel
theorem dX2_measure_55 : decode cX2_measure 55 = .ok (.getfield 50, 3) := by decide +kernel
theorem dX2_measure_58 : decode cX2_measure 58 = .ok (.iload 5, 2) := by decide +kernel
theorem dX2_measure_60 : decode cX2_measure 60 = .ok (.invokevirtual 55, 3) := by decide +kernel
theorem dX2_measure_63 : decode cX2_measure 63 = .ok (.invokestatic 59, 3) := by decide +kernel
theorem dX2_measure_66 : decode cX2_measure 66 = .ok (.iconst 0, 1) := by decide +kernel
theorem dX2_measure_67 : decode cX2_measure 67 = .ok (.istore 6, 2) := by decide +kernel
theorem dX2_measure_69 : decode cX2_measure 69 = .ok (.iload 6, 2) := by decide +kernel
theorem dX2_measure_71 : decode cX2_measure 71 = .ok (.aload_n 0, 1) := by decide +kernel
theorem dX2_measure_72 : decode cX2_measure 72 = .ok (.getfield 9, 3) := by decide +kernel
theorem dX2_measure_75 : decode cX2_measure 75 = .ok (.if_icmp .ge 52, 3) := by decide +kernel
theorem dX2_measure_78 : decode cX2_measure 78 = .ok (.aload_n 2, 1) := by decide +kernel
theorem dX2_measure_79 : decode cX2_measure 79 = .ok (.aload_n 3, 1) := by decide +kernel
theorem dX2_measure_80 : decode cX2_measure 80 = .ok (.aload_n 0, 1) := by decide +kernel
theorem dX2_measure_81 : decode cX2_measure 81 = .ok (.getfield 15, 3) := by decide +kernel
theorem dX2_measure_84 : decode cX2_measure 84 = .ok (.iload 6, 2) := by decide +kernel
theorem dX2_measure_86 : decode cX2_measure 86 = .ok (.invokestatic 42, 3) := by decide +kernel
theorem dX2_measure_89 : decode cX2_measure 89 = .ok (.invokevirtual 46, 3) := by decide +kernel
theorem dX2_measure_92 : decode cX2_measure 92 = .ok (.invokevirtual 63, 3) := by decide +kernel
theorem dX2_measure_95 : decode cX2_measure 95 = .ok (.istore 7, 2) := by decide +kernel
theorem dX2_measure_97 : decode cX2_measure 97 = .ok (.aload_n 0, 1) := by decide +kernel
theorem dX2_measure_98 : decode cX2_measure 98 = .ok (.getfield 19, 3) := by decide +kernel
theorem dX2_measure_101 : decode cX2_measure 101 = .ok (.iload 6, 2) := by decide +kernel
theorem dX2_measure_103 : decode cX2_measure 103 = .ok (.bipush 7, 2) := by decide +kernel
theorem dX2_measure_105 : decode cX2_measure 105 = .ok (.imul, 1) := by decide +kernel
theorem dX2_measure_106 : decode cX2_measure 106 = .ok (.iload 4, 2) := by decide +kernel
theorem dX2_measure_108 : decode cX2_measure 108 = .ok (.iadd, 1) := by decide +kernel
theorem dX2_measure_109 : decode cX2_measure 109 = .ok (.aload_n 1, 1) := by decide +kernel
theorem dX2_measure_110 : decode cX2_measure 110 = .ok (.aload_n 2, 1) := by decide +kernel
theorem dX2_measure_111 : decode cX2_measure 111 = .ok (.iload 7, 2) := by decide +kernel
theorem dX2_measure_113 : decode cX2_measure 113 = .ok (.iload 5, 2) := by decide +kernel
theorem dX2_measure_115 : decode cX2_measure 115 = .ok (.invokevirtual 55, 3) := by decide +kernel
theorem dX2_measure_118 : decode cX2_measure 118 = .ok (.invokestatic 59, 3) := by decide +kernel
theorem dX2_measure_121 : decode cX2_measure 121 = .ok (.iinc 6 1, 3) := by decide +kernel
theorem dX2_measure_124 : decode cX2_measure 124 = .ok (.goto (-55), 3) := by decide +kernel
theorem dX2_measure_127 : decode cX2_measure 127 = .ok (.iinc 4 1, 3) := by decide +kernel
theorem dX2_measure_130 : decode cX2_measure 130 = .ok (.goto (-111), 3) := by decide +kernel
theorem dX2_measure_133 : decode cX2_measure 133 = .ok (.return_, 1) := by decide +kernel
set_option maxRecDepth 20000 in
theorem ggX2_leg_X4_at : GoodIn wsX2_leg wsX4_at := goodIn_r _ [4] (by decide +kernel) (by decide +kernel)
set_option maxRecDepth 20000 in
theorem gX2_leg_X4_at_n42 : GoodIn wsX2_leg (wsX4_at) := ggX2_leg_X4_at
theorem dX2_leg_0 : decode cX2_leg 0 = .ok (.aload_n 0, 1) := by decide +kernel
theorem dX2_leg_1 : decode cX2_leg 1 = .ok (.getfield 19, 3) := by decide +kernel
theorem dX2_leg_4 : decode cX2_leg 4 = .ok (.iload_n 1, 1) := by decide +kernel
theorem dX2_leg_5 : decode cX2_leg 5 = .ok (.bipush 7, 2) := by decide +kernel
theorem dX2_leg_7 : decode cX2_leg 7 = .ok (.imul, 1) := by decide +kernel
theorem dX2_leg_8 : decode cX2_leg 8 = .ok (.iload_n 2, 1) := by decide +kernel
theorem dX2_leg_9 : decode cX2_leg 9 = .ok (.iadd, 1) := by decide +kernel
theorem dX2_leg_10 : decode cX2_leg 10 = .ok (.invokestatic 42, 3) := by decide +kernel
theorem dX2_leg_13 : decode cX2_leg 13 = .ok (.ireturn, 1) := by decide +kernel
set_option maxRecDepth 20000 in
theorem ggX2_timeOf_X4_at : GoodIn wsX2_timeOf wsX4_at := goodIn_r _ [3] (by decide +kernel) (by decide +kernel)
set_option maxRecDepth 20000 in
theorem gX2_timeOf_X4_at_n42 : GoodIn wsX2_timeOf (wsX4_at) := ggX2_timeOf_X4_at
set_option maxRecDepth 20000 in
theorem ggX2_timeOf_X2_leg : GoodIn wsX2_timeOf wsX2_leg := goodIn_r _ [8, 9, 1, 2, 3, 10, 11, 12, 13, 14, 15] (by decide +kernel) (by decide +kernel)
set_option maxRecDepth 20000 in
theorem gX2_timeOf_X2_leg : GoodIn wsX2_timeOf (wsV RX2 66 RX2 yX2_leg wsX2_leg) := goodIn_app (goodIn_of _ (by decide +kernel)) ggX2_timeOf_X2_leg
theorem dX2_timeOf_0 : decode cX2_timeOf 0 = .ok (.iconst 0, 1) := by decide +kernel
theorem dX2_timeOf_1 : decode cX2_timeOf 1 = .ok (.istore_n 3, 1) := by decide +kernel
theorem dX2_timeOf_2 : decode cX2_timeOf 2 = .ok (.bipush 7, 2) := by decide +kernel
theorem dX2_timeOf_4 : decode cX2_timeOf 4 = .ok (.istore 4, 2) := by decide +kernel
theorem dX2_timeOf_6 : decode cX2_timeOf 6 = .ok (.iconst 0, 1) := by decide +kernel
theorem dX2_timeOf_7 : decode cX2_timeOf 7 = .ok (.istore 5, 2) := by decide +kernel
theorem dX2_timeOf_9 : decode cX2_timeOf 9 = .ok (.iload 5, 2) := by decide +kernel
theorem dX2_timeOf_11 : decode cX2_timeOf 11 = .ok (.iload_n 2, 1) := by decide +kernel
theorem dX2_timeOf_12 : decode cX2_timeOf 12 = .ok (.if_icmp .ge 32, 3) := by decide +kernel
theorem dX2_timeOf_15 : decode cX2_timeOf 15 = .ok (.aload_n 1, 1) := by decide +kernel
theorem dX2_timeOf_16 : decode cX2_timeOf 16 = .ok (.iload 5, 2) := by decide +kernel
theorem dX2_timeOf_18 : decode cX2_timeOf 18 = .ok (.invokestatic 42, 3) := by decide +kernel
theorem dX2_timeOf_21 : decode cX2_timeOf 21 = .ok (.istore 6, 2) := by decide +kernel
theorem dX2_timeOf_23 : decode cX2_timeOf 23 = .ok (.iload_n 3, 1) := by decide +kernel
theorem dX2_timeOf_24 : decode cX2_timeOf 24 = .ok (.aload_n 0, 1) := by decide +kernel
theorem dX2_timeOf_25 : decode cX2_timeOf 25 = .ok (.iload 4, 2) := by decide +kernel
theorem dX2_timeOf_27 : decode cX2_timeOf 27 = .ok (.iload 6, 2) := by decide +kernel
theorem dX2_timeOf_29 : decode cX2_timeOf 29 = .ok (.invokevirtual 66, 3) := by decide +kernel
theorem dX2_timeOf_32 : decode cX2_timeOf 32 = .ok (.iadd, 1) := by decide +kernel
theorem dX2_timeOf_33 : decode cX2_timeOf 33 = .ok (.istore_n 3, 1) := by decide +kernel
theorem dX2_timeOf_34 : decode cX2_timeOf 34 = .ok (.iload 6, 2) := by decide +kernel
theorem dX2_timeOf_36 : decode cX2_timeOf 36 = .ok (.istore 4, 2) := by decide +kernel
theorem dX2_timeOf_38 : decode cX2_timeOf 38 = .ok (.iinc 5 1, 3) := by decide +kernel
theorem dX2_timeOf_41 : decode cX2_timeOf 41 = .ok (.goto (-32), 3) := by decide +kernel
theorem dX2_timeOf_44 : decode cX2_timeOf 44 = .ok (.iload_n 3, 1) := by decide +kernel
theorem dX2_timeOf_45 : decode cX2_timeOf 45 = .ok (.ireturn, 1) := by decide +kernel
set_option maxRecDepth 20000 in
theorem ggX2_bestJobAt_X4_at : GoodIn wsX2_bestJobAt wsX4_at := goodIn_r _ [5] (by decide +kernel) (by decide +kernel)
set_option maxRecDepth 20000 in
theorem gX2_bestJobAt_X4_at_n42 : GoodIn wsX2_bestJobAt (wsX4_at) := ggX2_bestJobAt_X4_at
theorem dX2_bestJobAt_0 : decode cX2_bestJobAt 0 = .ok (.aload_n 0, 1) := by decide +kernel
theorem dX2_bestJobAt_1 : decode cX2_bestJobAt 1 = .ok (.getfield 15, 3) := by decide +kernel
theorem dX2_bestJobAt_4 : decode cX2_bestJobAt 4 = .ok (.aload_n 0, 1) := by decide +kernel
theorem dX2_bestJobAt_5 : decode cX2_bestJobAt 5 = .ok (.getfield 25, 3) := by decide +kernel
theorem dX2_bestJobAt_8 : decode cX2_bestJobAt 8 = .ok (.iload_n 1, 1) := by decide +kernel
theorem dX2_bestJobAt_9 : decode cX2_bestJobAt 9 = .ok (.invokestatic 42, 3) := by decide +kernel
theorem dX2_bestJobAt_12 : decode cX2_bestJobAt 12 = .ok (.invokestatic 42, 3) := by decide +kernel
theorem dX2_bestJobAt_15 : decode cX2_bestJobAt 15 = .ok (.ireturn, 1) := by decide +kernel
set_option maxRecDepth 20000 in
theorem ggX2_findBest_X2_restBehind : GoodIn wsX2_findBest wsX2_restBehind := goodIn_r _ [8, 9, 10, 11, 7, 12, 1, 13, 14, 15, 16, 2, 17, 18, 19, 20, 21, 22, 23, 24, 27, 28, 29, 30, 31, 32] (by decide +kernel) (by decide +kernel)
set_option maxRecDepth 20000 in
theorem gX2_findBest_X2_restBehind : GoodIn wsX2_findBest (wsV RX2 70 RX2 yX2_restBehind wsX2_restBehind) := goodIn_app (goodIn_of _ (by decide +kernel)) ggX2_findBest_X2_restBehind
set_option maxRecDepth 20000 in
theorem ggX2_findBest_X4_put : GoodIn wsX2_findBest wsX4_put := goodIn_r _ [26] (by decide +kernel) (by decide +kernel)
set_option maxRecDepth 20000 in
theorem gX2_findBest_X4_put_n59 : GoodIn wsX2_findBest (wsX4_put) := ggX2_findBest_X4_put
set_option maxRecDepth 20000 in
theorem ggX2_findBest_X2_bestFollower : GoodIn wsX2_findBest wsX2_bestFollower := goodIn_r _ [12, 1, 13, 14, 15, 7, 16, 2, 17, 18, 19, 20, 21, 22, 23, 24, 27, 28, 29, 30, 31, 32] (by decide +kernel) (by decide +kernel)
set_option maxRecDepth 20000 in
theorem gX2_findBest_X2_bestFollower : GoodIn wsX2_findBest (wsV RX2 73 RX2 yX2_bestFollower wsX2_bestFollower) := goodIn_app (goodIn_of _ (by decide +kernel)) ggX2_findBest_X2_bestFollower
theorem dX2_findBest_0 : decode cX2_findBest 0 = .ok (.iconst 1, 1) := by decide +kernel
theorem dX2_findBest_1 : decode cX2_findBest 1 = .ok (.aload_n 0, 1) := by decide +kernel
theorem dX2_findBest_2 : decode cX2_findBest 2 = .ok (.getfield 9, 3) := by decide +kernel
theorem dX2_findBest_5 : decode cX2_findBest 5 = .ok (.ishl, 1) := by decide +kernel
theorem dX2_findBest_6 : decode cX2_findBest 6 = .ok (.iconst 1, 1) := by decide +kernel
theorem dX2_findBest_7 : decode cX2_findBest 7 = .ok (.isub, 1) := by decide +kernel
theorem dX2_findBest_8 : decode cX2_findBest 8 = .ok (.istore_n 1, 1) := by decide +kernel
theorem dX2_findBest_9 : decode cX2_findBest 9 = .ok (.iload_n 1, 1) := by decide +kernel
theorem dX2_findBest_10 : decode cX2_findBest 10 = .ok (.ifCond .le 44, 3) := by decide +kernel
theorem dX2_findBest_13 : decode cX2_findBest 13 = .ok (.iconst 0, 1) := by decide +kernel
theorem dX2_findBest_14 : decode cX2_findBest 14 = .ok (.istore_n 2, 1) := by decide +kernel
theorem dX2_findBest_15 : decode cX2_findBest 15 = .ok (.iload_n 2, 1) := by decide +kernel
theorem dX2_findBest_16 : decode cX2_findBest 16 = .ok (.aload_n 0, 1) := by decide +kernel
theorem dX2_findBest_17 : decode cX2_findBest 17 = .ok (.getfield 9, 3) := by decide +kernel
theorem dX2_findBest_20 : decode cX2_findBest 20 = .ok (.if_icmp .ge 28, 3) := by decide +kernel
theorem dX2_findBest_23 : decode cX2_findBest 23 = .ok (.aload_n 0, 1) := by decide +kernel
theorem dX2_findBest_24 : decode cX2_findBest 24 = .ok (.getfield 22, 3) := by decide +kernel
theorem dX2_findBest_27 : decode cX2_findBest 27 = .ok (.iload_n 1, 1) := by decide +kernel
theorem dX2_findBest_28 : decode cX2_findBest 28 = .ok (.bipush 7, 2) := by decide +kernel
theorem dX2_findBest_30 : decode cX2_findBest 30 = .ok (.imul, 1) := by decide +kernel
theorem dX2_findBest_31 : decode cX2_findBest 31 = .ok (.iload_n 2, 1) := by decide +kernel
theorem dX2_findBest_32 : decode cX2_findBest 32 = .ok (.iadd, 1) := by decide +kernel
theorem dX2_findBest_33 : decode cX2_findBest 33 = .ok (.aload_n 0, 1) := by decide +kernel
theorem dX2_findBest_34 : decode cX2_findBest 34 = .ok (.iload_n 1, 1) := by decide +kernel
theorem dX2_findBest_35 : decode cX2_findBest 35 = .ok (.iload_n 2, 1) := by decide +kernel
theorem dX2_findBest_36 : decode cX2_findBest 36 = .ok (.invokevirtual 70, 3) := by decide +kernel
theorem dX2_findBest_39 : decode cX2_findBest 39 = .ok (.invokestatic 59, 3) := by decide +kernel
theorem dX2_findBest_42 : decode cX2_findBest 42 = .ok (.iinc 2 1, 3) := by decide +kernel
theorem dX2_findBest_45 : decode cX2_findBest 45 = .ok (.goto (-30), 3) := by decide +kernel
theorem dX2_findBest_48 : decode cX2_findBest 48 = .ok (.iinc 1 (-1), 3) := by decide +kernel
theorem dX2_findBest_51 : decode cX2_findBest 51 = .ok (.goto (-42), 3) := by decide +kernel
theorem dX2_findBest_54 : decode cX2_findBest 54 = .ok (.iconst 0, 1) := by decide +kernel
theorem dX2_findBest_55 : decode cX2_findBest 55 = .ok (.istore_n 1, 1) := by decide +kernel
theorem dX2_findBest_56 : decode cX2_findBest 56 = .ok (.bipush 7, 2) := by decide +kernel
theorem dX2_findBest_58 : decode cX2_findBest 58 = .ok (.istore_n 2, 1) := by decide +kernel
theorem dX2_findBest_59 : decode cX2_findBest 59 = .ok (.iconst 0, 1) := by decide +kernel
theorem dX2_findBest_60 : decode cX2_findBest 60 = .ok (.istore_n 3, 1) := by decide +kernel
theorem dX2_findBest_61 : decode cX2_findBest 61 = .ok (.iload_n 3, 1) := by decide +kernel
theorem dX2_findBest_62 : decode cX2_findBest 62 = .ok (.aload_n 0, 1) := by decide +kernel
theorem dX2_findBest_63 : decode cX2_findBest 63 = .ok (.getfield 9, 3) := by decide +kernel
theorem dX2_findBest_66 : decode cX2_findBest 66 = .ok (.if_icmp .ge 31, 3) := by decide +kernel
theorem dX2_findBest_69 : decode cX2_findBest 69 = .ok (.aload_n 0, 1) := by decide +kernel
theorem dX2_findBest_70 : decode cX2_findBest 70 = .ok (.iload_n 1, 1) := by decide +kernel
theorem dX2_findBest_71 : decode cX2_findBest 71 = .ok (.iload_n 2, 1) := by decide +kernel
theorem dX2_findBest_72 : decode cX2_findBest 72 = .ok (.invokevirtual 73, 3) := by decide +kernel
theorem dX2_findBest_75 : decode cX2_findBest 75 = .ok (.istore_n 2, 1) := by decide +kernel
theorem dX2_findBest_76 : decode cX2_findBest 76 = .ok (.aload_n 0, 1) := by decide +kernel
theorem dX2_findBest_77 : decode cX2_findBest 77 = .ok (.getfield 25, 3) := by decide +kernel
theorem dX2_findBest_80 : decode cX2_findBest 80 = .ok (.iload_n 3, 1) := by decide +kernel
theorem dX2_findBest_81 : decode cX2_findBest 81 = .ok (.iload_n 2, 1) := by decide +kernel
theorem dX2_findBest_82 : decode cX2_findBest 82 = .ok (.invokestatic 59, 3) := by decide +kernel
theorem dX2_findBest_85 : decode cX2_findBest 85 = .ok (.iload_n 1, 1) := by decide +kernel
theorem dX2_findBest_86 : decode cX2_findBest 86 = .ok (.iconst 1, 1) := by decide +kernel
theorem dX2_findBest_87 : decode cX2_findBest 87 = .ok (.iload_n 2, 1) := by decide +kernel
theorem dX2_findBest_88 : decode cX2_findBest 88 = .ok (.ishl, 1) := by decide +kernel
theorem dX2_findBest_89 : decode cX2_findBest 89 = .ok (.ior, 1) := by decide +kernel
theorem dX2_findBest_90 : decode cX2_findBest 90 = .ok (.istore_n 1, 1) := by decide +kernel
theorem dX2_findBest_91 : decode cX2_findBest 91 = .ok (.iinc 3 1, 3) := by decide +kernel
theorem dX2_findBest_94 : decode cX2_findBest 94 = .ok (.goto (-33), 3) := by decide +kernel
theorem dX2_findBest_97 : decode cX2_findBest 97 = .ok (.return_, 1) := by decide +kernel
set_option maxRecDepth 20000 in
theorem ggX2_restBehind_X2_bestFollower : GoodIn wsX2_restBehind wsX2_bestFollower := goodIn_r _ [5, 6, 7, 8, 9, 4, 10, 11, 12, 13, 14, 15, 16, 17, 18, 19, 20, 21, 22, 23, 24, 25] (by decide +kernel) (by decide +kernel)
set_option maxRecDepth 20000 in
theorem gX2_restBehind_X2_bestFollower : GoodIn wsX2_restBehind (wsV RX2 73 RX2 yX2_bestFollower wsX2_bestFollower) := goodIn_app (goodIn_of _ (by decide +kernel)) ggX2_restBehind_X2_bestFollower
set_option maxRecDepth 20000 in
theorem ggX2_restBehind_X2_restThrough : GoodIn wsX2_restBehind wsX2_restThrough := goodIn_r _ [10, 11, 12, 13, 14, 4, 15, 16, 17, 18, 19, 20, 21, 22, 23, 24, 25] (by decide +kernel) (by decide +kernel)
set_option maxRecDepth 20000 in
theorem gX2_restBehind_X2_restThrough : GoodIn wsX2_restBehind (wsV RX2 76 RX2 yX2_restThrough wsX2_restThrough) := goodIn_app (goodIn_of _ (by decide +kernel)) ggX2_restBehind_X2_restThrough
theorem dX2_restBehind_0 : decode cX2_restBehind 0 = .ok (.aload_n 0, 1) := by decide +kernel
theorem dX2_restBehind_1 : decode cX2_restBehind 1 = .ok (.iload_n 1, 1) := by decide +kernel
theorem dX2_restBehind_2 : decode cX2_restBehind 2 = .ok (.iload_n 2, 1) := by decide +kernel
theorem dX2_restBehind_3 : decode cX2_restBehind 3 = .ok (.invokevirtual 73, 3) := by decide +kernel
theorem dX2_restBehind_6 : decode cX2_restBehind 6 = .ok (.istore_n 3, 1) := by decide +kernel
theorem dX2_restBehind_7 : decode cX2_restBehind 7 = .ok (.iload_n 3, 1) := by decide +kernel
theorem dX2_restBehind_8 : decode cX2_restBehind 8 = .ok (.iconst (-1), 1) := by decide +kernel
theorem dX2_restBehind_9 : decode cX2_restBehind 9 = .ok (.if_icmp .ne 7, 3) := by decide +kernel
theorem dX2_restBehind_12 : decode cX2_restBehind 12 = .ok (.iconst 0, 1) := by decide +kernel
theorem dX2_restBehind_13 : decode cX2_restBehind 13 = .ok (.goto 10, 3) := by decide +kernel
theorem dX2_restBehind_16 : decode cX2_restBehind 16 = .ok (.aload_n 0, 1) := by decide +kernel
theorem dX2_restBehind_17 : decode cX2_restBehind 17 = .ok (.iload_n 1, 1) := by decide +kernel
theorem dX2_restBehind_18 : decode cX2_restBehind 18 = .ok (.iload_n 2, 1) := by decide +kernel
theorem dX2_restBehind_19 : decode cX2_restBehind 19 = .ok (.iload_n 3, 1) := by decide +kernel
theorem dX2_restBehind_20 : decode cX2_restBehind 20 = .ok (.invokevirtual 76, 3) := by decide +kernel
theorem dX2_restBehind_23 : decode cX2_restBehind 23 = .ok (.ireturn, 1) := by decide +kernel
set_option maxRecDepth 20000 in
theorem ggX2_restThrough_X2_leg : GoodIn wsX2_restThrough wsX2_leg := goodIn_r _ [6, 7, 8, 9, 10, 11, 12, 13, 14, 15, 16] (by decide +kernel) (by decide +kernel)
set_option maxRecDepth 20000 in
theorem gX2_restThrough_X2_leg : GoodIn wsX2_restThrough (wsV RX2 66 RX2 yX2_leg wsX2_leg) := goodIn_app (goodIn_of _ (by decide +kernel)) ggX2_restThrough_X2_leg
set_option maxRecDepth 20000 in
theorem ggX2_restThrough_X4_at : GoodIn wsX2_restThrough wsX4_at := goodIn_r _ [10] (by decide +kernel) (by decide +kernel)
set_option maxRecDepth 20000 in
theorem gX2_restThrough_X4_at_n42 : GoodIn wsX2_restThrough (wsX4_at) := ggX2_restThrough_X4_at
theorem dX2_restThrough_0 : decode cX2_restThrough 0 = .ok (.aload_n 0, 1) := by decide +kernel
theorem dX2_restThrough_1 : decode cX2_restThrough 1 = .ok (.iload_n 2, 1) := by decide +kernel
theorem dX2_restThrough_2 : decode cX2_restThrough 2 = .ok (.iload_n 3, 1) := by decide +kernel
theorem dX2_restThrough_3 : decode cX2_restThrough 3 = .ok (.invokevirtual 66, 3) := by decide +kernel
theorem dX2_restThrough_6 : decode cX2_restThrough 6 = .ok (.aload_n 0, 1) := by decide +kernel
theorem dX2_restThrough_7 : decode cX2_restThrough 7 = .ok (.getfield 22, 3) := by decide +kernel
theorem dX2_restThrough_10 : decode cX2_restThrough 10 = .ok (.iload_n 1, 1) := by decide +kernel
theorem dX2_restThrough_11 : decode cX2_restThrough 11 = .ok (.iconst 1, 1) := by decide +kernel
theorem dX2_restThrough_12 : decode cX2_restThrough 12 = .ok (.iload_n 3, 1) := by decide +kernel
theorem dX2_restThrough_13 : decode cX2_restThrough 13 = .ok (.ishl, 1) := by decide +kernel
theorem dX2_restThrough_14 : decode cX2_restThrough 14 = .ok (.ior, 1) := by decide +kernel
theorem dX2_restThrough_15 : decode cX2_restThrough 15 = .ok (.bipush 7, 2) := by decide +kernel
theorem dX2_restThrough_17 : decode cX2_restThrough 17 = .ok (.imul, 1) := by decide +kernel
theorem dX2_restThrough_18 : decode cX2_restThrough 18 = .ok (.iload_n 3, 1) := by decide +kernel
theorem dX2_restThrough_19 : decode cX2_restThrough 19 = .ok (.iadd, 1) := by decide +kernel
theorem dX2_restThrough_20 : decode cX2_restThrough 20 = .ok (.invokestatic 42, 3) := by decide +kernel
theorem dX2_restThrough_23 : decode cX2_restThrough 23 = .ok (.iadd, 1) := by decide +kernel
theorem dX2_restThrough_24 : decode cX2_restThrough 24 = .ok (.ireturn, 1) := by decide +kernel
set_option maxRecDepth 20000 in
theorem ggX2_bestFollower_X2_restThrough : GoodIn wsX2_bestFollower wsX2_restThrough := goodIn_r _ [6, 7, 8, 9, 10, 5, 11, 12, 13, 14, 15, 16, 17, 18, 19, 20, 21] (by decide +kernel) (by decide +kernel)
set_option maxRecDepth 20000 in
theorem gX2_bestFollower_X2_restThrough : GoodIn wsX2_bestFollower (wsV RX2 76 RX2 yX2_restThrough wsX2_restThrough) := goodIn_app (goodIn_of _ (by decide +kernel)) ggX2_bestFollower_X2_restThrough
theorem dX2_bestFollower_0 : decode cX2_bestFollower 0 = .ok (.iconst (-1), 1) := by decide +kernel
theorem dX2_bestFollower_1 : decode cX2_bestFollower 1 = .ok (.istore_n 3, 1) := by decide +kernel
theorem dX2_bestFollower_2 : decode cX2_bestFollower 2 = .ok (.iconst 0, 1) := by decide +kernel
theorem dX2_bestFollower_3 : decode cX2_bestFollower 3 = .ok (.istore 4, 2) := by decide +kernel
theorem dX2_bestFollower_5 : decode cX2_bestFollower 5 = .ok (.iconst 0, 1) := by decide +kernel
theorem dX2_bestFollower_6 : decode cX2_bestFollower 6 = .ok (.istore 5, 2) := by decide +kernel
theorem dX2_bestFollower_8 : decode cX2_bestFollower 8 = .ok (.iload 5, 2) := by decide +kernel
theorem dX2_bestFollower_10 : decode cX2_bestFollower 10 = .ok (.aload_n 0, 1) := by decide +kernel
theorem dX2_bestFollower_11 : decode cX2_bestFollower 11 = .ok (.getfield 9, 3) := by decide +kernel
theorem dX2_bestFollower_14 : decode cX2_bestFollower 14 = .ok (.if_icmp .ge 47, 3) := by decide +kernel
theorem dX2_bestFollower_17 : decode cX2_bestFollower 17 = .ok (.iload_n 1, 1) := by decide +kernel
theorem dX2_bestFollower_18 : decode cX2_bestFollower 18 = .ok (.iload 5, 2) := by decide +kernel
theorem dX2_bestFollower_20 : decode cX2_bestFollower 20 = .ok (.ishr, 1) := by decide +kernel
theorem dX2_bestFollower_21 : decode cX2_bestFollower 21 = .ok (.iconst 1, 1) := by decide +kernel
theorem dX2_bestFollower_22 : decode cX2_bestFollower 22 = .ok (.iand, 1) := by decide +kernel
theorem dX2_bestFollower_23 : decode cX2_bestFollower 23 = .ok (.ifCond .ne 32, 3) := by decide +kernel
theorem dX2_bestFollower_26 : decode cX2_bestFollower 26 = .ok (.aload_n 0, 1) := by decide +kernel
theorem dX2_bestFollower_27 : decode cX2_bestFollower 27 = .ok (.iload_n 1, 1) := by decide +kernel
theorem dX2_bestFollower_28 : decode cX2_bestFollower 28 = .ok (.iload_n 2, 1) := by decide +kernel
theorem dX2_bestFollower_29 : decode cX2_bestFollower 29 = .ok (.iload 5, 2) := by decide +kernel
theorem dX2_bestFollower_31 : decode cX2_bestFollower 31 = .ok (.invokevirtual 76, 3) := by decide +kernel
theorem dX2_bestFollower_34 : decode cX2_bestFollower 34 = .ok (.istore 6, 2) := by decide +kernel
theorem dX2_bestFollower_36 : decode cX2_bestFollower 36 = .ok (.iload_n 3, 1) := by decide +kernel
theorem dX2_bestFollower_37 : decode cX2_bestFollower 37 = .ok (.iconst (-1), 1) := by decide +kernel
theorem dX2_bestFollower_38 : decode cX2_bestFollower 38 = .ok (.if_icmp .eq 10, 3) := by decide +kernel
theorem dX2_bestFollower_41 : decode cX2_bestFollower 41 = .ok (.iload 6, 2) := by decide +kernel
theorem dX2_bestFollower_43 : decode cX2_bestFollower 43 = .ok (.iload 4, 2) := by decide +kernel
theorem dX2_bestFollower_45 : decode cX2_bestFollower 45 = .ok (.if_icmp .ge 10, 3) := by decide +kernel
theorem dX2_bestFollower_48 : decode cX2_bestFollower 48 = .ok (.iload 5, 2) := by decide +kernel
theorem dX2_bestFollower_50 : decode cX2_bestFollower 50 = .ok (.istore_n 3, 1) := by decide +kernel
theorem dX2_bestFollower_51 : decode cX2_bestFollower 51 = .ok (.iload 6, 2) := by decide +kernel
theorem dX2_bestFollower_53 : decode cX2_bestFollower 53 = .ok (.istore 4, 2) := by decide +kernel
theorem dX2_bestFollower_55 : decode cX2_bestFollower 55 = .ok (.iinc 5 1, 3) := by decide +kernel
theorem dX2_bestFollower_58 : decode cX2_bestFollower 58 = .ok (.goto (-50), 3) := by decide +kernel
theorem dX2_bestFollower_61 : decode cX2_bestFollower 61 = .ok (.iload_n 3, 1) := by decide +kernel
theorem dX2_bestFollower_62 : decode cX2_bestFollower 62 = .ok (.ireturn, 1) := by decide +kernel
set_option maxRecDepth 20000 in
theorem ggX2_timeByTrying_X4_put : GoodIn wsX2_timeByTrying wsX4_put := goodIn_r _ [9] (by decide +kernel) (by decide +kernel)
set_option maxRecDepth 20000 in
theorem gX2_timeByTrying_X4_put_n59 : GoodIn wsX2_timeByTrying (wsX4_put) := ggX2_timeByTrying_X4_put
set_option maxRecDepth 20000 in
theorem ggX2_timeByTrying_X2_timeOf : GoodIn wsX2_timeByTrying wsX2_timeOf := goodIn_r _ [14, 15, 8, 16, 17, 18, 19, 13, 20, 21, 30, 31, 32, 33, 34, 35] (by decide +kernel) (by decide +kernel)
set_option maxRecDepth 20000 in
theorem gX2_timeByTrying_X2_timeOf : GoodIn wsX2_timeByTrying (wsV RX2 80 RX2 yX2_timeOf wsX2_timeOf) := goodIn_app (goodIn_of _ (by decide +kernel)) ggX2_timeByTrying_X2_timeOf
set_option maxRecDepth 20000 in
theorem ggX2_timeByTrying_X2_advanceOrder : GoodIn wsX2_timeByTrying wsX2_advanceOrder := goodIn_r _ [25, 1, 2, 15, 8, 16, 26, 27, 28, 13, 29, 7, 9, 30, 31, 32, 33, 34, 35] (by decide +kernel) (by decide +kernel)
set_option maxRecDepth 20000 in
theorem gX2_timeByTrying_X2_advanceOrder : GoodIn wsX2_timeByTrying (wsV RX2 83 RX2 yX2_advanceOrder wsX2_advanceOrder) := goodIn_app (goodIn_of _ (by decide +kernel)) ggX2_timeByTrying_X2_advanceOrder
theorem dX2_timeByTrying_0 : decode cX2_timeByTrying 0 = .ok (.iconst 0, 1) := by decide +kernel
theorem dX2_timeByTrying_1 : decode cX2_timeByTrying 1 = .ok (.istore_n 1, 1) := by decide +kernel
theorem dX2_timeByTrying_2 : decode cX2_timeByTrying 2 = .ok (.iload_n 1, 1) := by decide +kernel
theorem dX2_timeByTrying_3 : decode cX2_timeByTrying 3 = .ok (.aload_n 0, 1) := by decide +kernel
theorem dX2_timeByTrying_4 : decode cX2_timeByTrying 4 = .ok (.getfield 9, 3) := by decide +kernel
theorem dX2_timeByTrying_7 : decode cX2_timeByTrying 7 = .ok (.if_icmp .ge 18, 3) := by decide +kernel
theorem dX2_timeByTrying_10 : decode cX2_timeByTrying 10 = .ok (.aload_n 0, 1) := by decide +kernel
theorem dX2_timeByTrying_11 : decode cX2_timeByTrying 11 = .ok (.getfield 28, 3) := by decide +kernel
theorem dX2_timeByTrying_14 : decode cX2_timeByTrying 14 = .ok (.iload_n 1, 1) := by decide +kernel
theorem dX2_timeByTrying_15 : decode cX2_timeByTrying 15 = .ok (.iload_n 1, 1) := by decide +kernel
theorem dX2_timeByTrying_16 : decode cX2_timeByTrying 16 = .ok (.invokestatic 59, 3) := by decide +kernel
theorem dX2_timeByTrying_19 : decode cX2_timeByTrying 19 = .ok (.iinc 1 1, 3) := by decide +kernel
theorem dX2_timeByTrying_22 : decode cX2_timeByTrying 22 = .ok (.goto (-20), 3) := by decide +kernel
theorem dX2_timeByTrying_25 : decode cX2_timeByTrying 25 = .ok (.aload_n 0, 1) := by decide +kernel
theorem dX2_timeByTrying_26 : decode cX2_timeByTrying 26 = .ok (.aload_n 0, 1) := by decide +kernel
theorem dX2_timeByTrying_27 : decode cX2_timeByTrying 27 = .ok (.getfield 28, 3) := by decide +kernel
theorem dX2_timeByTrying_30 : decode cX2_timeByTrying 30 = .ok (.aload_n 0, 1) := by decide +kernel
theorem dX2_timeByTrying_31 : decode cX2_timeByTrying 31 = .ok (.getfield 9, 3) := by decide +kernel
theorem dX2_timeByTrying_34 : decode cX2_timeByTrying 34 = .ok (.invokevirtual 80, 3) := by decide +kernel
theorem dX2_timeByTrying_37 : decode cX2_timeByTrying 37 = .ok (.istore_n 1, 1) := by decide +kernel
theorem dX2_timeByTrying_38 : decode cX2_timeByTrying 38 = .ok (.iconst 1, 1) := by decide +kernel
theorem dX2_timeByTrying_39 : decode cX2_timeByTrying 39 = .ok (.istore_n 2, 1) := by decide +kernel
theorem dX2_timeByTrying_40 : decode cX2_timeByTrying 40 = .ok (.iload_n 2, 1) := by decide +kernel
theorem dX2_timeByTrying_41 : decode cX2_timeByTrying 41 = .ok (.sipush 5040, 3) := by decide +kernel
theorem dX2_timeByTrying_44 : decode cX2_timeByTrying 44 = .ok (.if_icmp .ge 33, 3) := by decide +kernel
theorem dX2_timeByTrying_47 : decode cX2_timeByTrying 47 = .ok (.aload_n 0, 1) := by decide +kernel
theorem dX2_timeByTrying_48 : decode cX2_timeByTrying 48 = .ok (.invokevirtual 83, 3) := by decide +kernel
theorem dX2_timeByTrying_51 : decode cX2_timeByTrying 51 = .ok (.ifCond .eq 26, 3) := by decide +kernel
theorem dX2_timeByTrying_54 : decode cX2_timeByTrying 54 = .ok (.iload_n 1, 1) := by decide +kernel
theorem dX2_timeByTrying_55 : decode cX2_timeByTrying 55 = .ok (.aload_n 0, 1) := by decide +kernel
theorem dX2_timeByTrying_56 : decode cX2_timeByTrying 56 = .ok (.aload_n 0, 1) := by decide +kernel
theorem dX2_timeByTrying_57 : decode cX2_timeByTrying 57 = .ok (.getfield 28, 3) := by decide +kernel
theorem dX2_timeByTrying_60 : decode cX2_timeByTrying 60 = .ok (.aload_n 0, 1) := by decide +kernel
theorem dX2_timeByTrying_61 : decode cX2_timeByTrying 61 = .ok (.getfield 9, 3) := by decide +kernel
theorem dX2_timeByTrying_64 : decode cX2_timeByTrying 64 = .ok (.invokevirtual 80, 3) := by decide +kernel
theorem dX2_timeByTrying_67 : decode cX2_timeByTrying 67 = .ok (.invokestatic 87, 3) := by decide +kernel
theorem dX2_timeByTrying_70 : decode cX2_timeByTrying 70 = .ok (.istore_n 1, 1) := by decide +kernel
theorem dX2_timeByTrying_71 : decode cX2_timeByTrying 71 = .ok (.iinc 2 1, 3) := by decide +kernel
theorem dX2_timeByTrying_74 : decode cX2_timeByTrying 74 = .ok (.goto (-34), 3) := by decide +kernel
theorem dX2_timeByTrying_77 : decode cX2_timeByTrying 77 = .ok (.iload_n 1, 1) := by decide +kernel
theorem dX2_timeByTrying_78 : decode cX2_timeByTrying 78 = .ok (.ireturn, 1) := by decide +kernel
set_option maxRecDepth 20000 in
theorem ggX2_advanceOrder_X4_at : GoodIn wsX2_advanceOrder wsX4_at := goodIn_r _ [5] (by decide +kernel) (by decide +kernel)
set_option maxRecDepth 20000 in
theorem gX2_advanceOrder_X4_at_n42 : GoodIn wsX2_advanceOrder (wsX4_at) := ggX2_advanceOrder_X4_at
set_option maxRecDepth 20000 in
theorem ggX2_advanceOrder_X2_swap : GoodIn wsX2_advanceOrder wsX2_swap := goodIn_r _ [10, 2, 3, 4, 5, 11, 12, 13, 14, 15, 16, 17, 18] (by decide +kernel) (by decide +kernel)
set_option maxRecDepth 20000 in
theorem gX2_advanceOrder_X2_swap : GoodIn wsX2_advanceOrder (wsV RX2 92 RX2 yX2_swap wsX2_swap) := goodIn_app (goodIn_of _ (by decide +kernel)) ggX2_advanceOrder_X2_swap
theorem dX2_advanceOrder_0 : decode cX2_advanceOrder 0 = .ok (.aload_n 0, 1) := by decide +kernel
theorem dX2_advanceOrder_1 : decode cX2_advanceOrder 1 = .ok (.getfield 9, 3) := by decide +kernel
theorem dX2_advanceOrder_4 : decode cX2_advanceOrder 4 = .ok (.iconst 2, 1) := by decide +kernel
theorem dX2_advanceOrder_5 : decode cX2_advanceOrder 5 = .ok (.isub, 1) := by decide +kernel
theorem dX2_advanceOrder_6 : decode cX2_advanceOrder 6 = .ok (.istore_n 1, 1) := by decide +kernel
theorem dX2_advanceOrder_7 : decode cX2_advanceOrder 7 = .ok (.iload_n 1, 1) := by decide +kernel
theorem dX2_advanceOrder_8 : decode cX2_advanceOrder 8 = .ok (.ifCond .lt 30, 3) := by decide +kernel
theorem dX2_advanceOrder_11 : decode cX2_advanceOrder 11 = .ok (.aload_n 0, 1) := by decide +kernel
theorem dX2_advanceOrder_12 : decode cX2_advanceOrder 12 = .ok (.getfield 28, 3) := by decide +kernel
theorem dX2_advanceOrder_15 : decode cX2_advanceOrder 15 = .ok (.iload_n 1, 1) := by decide +kernel
theorem dX2_advanceOrder_16 : decode cX2_advanceOrder 16 = .ok (.invokestatic 42, 3) := by decide +kernel
theorem dX2_advanceOrder_19 : decode cX2_advanceOrder 19 = .ok (.aload_n 0, 1) := by decide +kernel
theorem dX2_advanceOrder_20 : decode cX2_advanceOrder 20 = .ok (.getfield 28, 3) := by decide +kernel
theorem dX2_advanceOrder_23 : decode cX2_advanceOrder 23 = .ok (.iload_n 1, 1) := by decide +kernel
theorem dX2_advanceOrder_24 : decode cX2_advanceOrder 24 = .ok (.iconst 1, 1) := by decide +kernel
theorem dX2_advanceOrder_25 : decode cX2_advanceOrder 25 = .ok (.iadd, 1) := by decide +kernel
theorem dX2_advanceOrder_26 : decode cX2_advanceOrder 26 = .ok (.invokestatic 42, 3) := by decide +kernel
theorem dX2_advanceOrder_29 : decode cX2_advanceOrder 29 = .ok (.if_icmp .le 9, 3) := by decide +kernel
theorem dX2_advanceOrder_32 : decode cX2_advanceOrder 32 = .ok (.iinc 1 (-1), 3) := by decide +kernel
theorem dX2_advanceOrder_35 : decode cX2_advanceOrder 35 = .ok (.goto (-28), 3) := by decide +kernel
theorem dX2_advanceOrder_38 : decode cX2_advanceOrder 38 = .ok (.iload_n 1, 1) := by decide +kernel
theorem dX2_advanceOrder_39 : decode cX2_advanceOrder 39 = .ok (.ifCond .ge 5, 3) := by decide +kernel
theorem dX2_advanceOrder_42 : decode cX2_advanceOrder 42 = .ok (.iconst 0, 1) := by decide +kernel
theorem dX2_advanceOrder_43 : decode cX2_advanceOrder 43 = .ok (.ireturn, 1) := by decide +kernel
theorem dX2_advanceOrder_44 : decode cX2_advanceOrder 44 = .ok (.aload_n 0, 1) := by decide +kernel
theorem dX2_advanceOrder_45 : decode cX2_advanceOrder 45 = .ok (.getfield 9, 3) := by decide +kernel
theorem dX2_advanceOrder_48 : decode cX2_advanceOrder 48 = .ok (.iconst 1, 1) := by decide +kernel
theorem dX2_advanceOrder_49 : decode cX2_advanceOrder 49 = .ok (.isub, 1) := by decide +kernel
theorem dX2_advanceOrder_50 : decode cX2_advanceOrder 50 = .ok (.istore_n 2, 1) := by decide +kernel
theorem dX2_advanceOrder_51 : decode cX2_advanceOrder 51 = .ok (.iload_n 2, 1) := by decide +kernel
theorem dX2_advanceOrder_52 : decode cX2_advanceOrder 52 = .ok (.iload_n 1, 1) := by decide +kernel
theorem dX2_advanceOrder_53 : decode cX2_advanceOrder 53 = .ok (.if_icmp .le 28, 3) := by decide +kernel
theorem dX2_advanceOrder_56 : decode cX2_advanceOrder 56 = .ok (.aload_n 0, 1) := by decide +kernel
theorem dX2_advanceOrder_57 : decode cX2_advanceOrder 57 = .ok (.getfield 28, 3) := by decide +kernel
theorem dX2_advanceOrder_60 : decode cX2_advanceOrder 60 = .ok (.iload_n 2, 1) := by decide +kernel
theorem dX2_advanceOrder_61 : decode cX2_advanceOrder 61 = .ok (.invokestatic 42, 3) := by decide +kernel
theorem dX2_advanceOrder_64 : decode cX2_advanceOrder 64 = .ok (.aload_n 0, 1) := by decide +kernel
theorem dX2_advanceOrder_65 : decode cX2_advanceOrder 65 = .ok (.getfield 28, 3) := by decide +kernel
theorem dX2_advanceOrder_68 : decode cX2_advanceOrder 68 = .ok (.iload_n 1, 1) := by decide +kernel
theorem dX2_advanceOrder_69 : decode cX2_advanceOrder 69 = .ok (.invokestatic 42, 3) := by decide +kernel
theorem dX2_advanceOrder_72 : decode cX2_advanceOrder 72 = .ok (.if_icmp .ge 9, 3) := by decide +kernel
theorem dX2_advanceOrder_75 : decode cX2_advanceOrder 75 = .ok (.iinc 2 (-1), 3) := by decide +kernel
theorem dX2_advanceOrder_78 : decode cX2_advanceOrder 78 = .ok (.goto (-27), 3) := by decide +kernel
theorem dX2_advanceOrder_81 : decode cX2_advanceOrder 81 = .ok (.aload_n 0, 1) := by decide +kernel
theorem dX2_advanceOrder_82 : decode cX2_advanceOrder 82 = .ok (.iload_n 1, 1) := by decide +kernel
theorem dX2_advanceOrder_83 : decode cX2_advanceOrder 83 = .ok (.iload_n 2, 1) := by decide +kernel
theorem dX2_advanceOrder_84 : decode cX2_advanceOrder 84 = .ok (.invokevirtual 92, 3) := by decide +kernel
theorem dX2_advanceOrder_87 : decode cX2_advanceOrder 87 = .ok (.iload_n 1, 1) := by decide +kernel
theorem dX2_advanceOrder_88 : decode cX2_advanceOrder 88 = .ok (.iconst 1, 1) := by decide +kernel
theorem dX2_advanceOrder_89 : decode cX2_advanceOrder 89 = .ok (.iadd, 1) := by decide +kernel
theorem dX2_advanceOrder_90 : decode cX2_advanceOrder 90 = .ok (.istore_n 3, 1) := by decide +kernel
theorem dX2_advanceOrder_91 : decode cX2_advanceOrder 91 = .ok (.aload_n 0, 1) := by decide +kernel
theorem dX2_advanceOrder_92 : decode cX2_advanceOrder 92 = .ok (.getfield 9, 3) := by decide +kernel
theorem dX2_advanceOrder_95 : decode cX2_advanceOrder 95 = .ok (.iconst 1, 1) := by decide +kernel
theorem dX2_advanceOrder_96 : decode cX2_advanceOrder 96 = .ok (.isub, 1) := by decide +kernel
theorem dX2_advanceOrder_97 : decode cX2_advanceOrder 97 = .ok (.istore 4, 2) := by decide +kernel
theorem dX2_advanceOrder_99 : decode cX2_advanceOrder 99 = .ok (.iload_n 3, 1) := by decide +kernel
theorem dX2_advanceOrder_100 : decode cX2_advanceOrder 100 = .ok (.iload 4, 2) := by decide +kernel
theorem dX2_advanceOrder_102 : decode cX2_advanceOrder 102 = .ok (.if_icmp .ge 19, 3) := by decide +kernel
theorem dX2_advanceOrder_105 : decode cX2_advanceOrder 105 = .ok (.aload_n 0, 1) := by decide +kernel
theorem dX2_advanceOrder_106 : decode cX2_advanceOrder 106 = .ok (.iload_n 3, 1) := by decide +kernel
theorem dX2_advanceOrder_107 : decode cX2_advanceOrder 107 = .ok (.iload 4, 2) := by decide +kernel
theorem dX2_advanceOrder_109 : decode cX2_advanceOrder 109 = .ok (.invokevirtual 92, 3) := by decide +kernel
theorem dX2_advanceOrder_112 : decode cX2_advanceOrder 112 = .ok (.iinc 3 1, 3) := by decide +kernel
theorem dX2_advanceOrder_115 : decode cX2_advanceOrder 115 = .ok (.iinc 4 (-1), 3) := by decide +kernel
theorem dX2_advanceOrder_118 : decode cX2_advanceOrder 118 = .ok (.goto (-19), 3) := by decide +kernel
theorem dX2_advanceOrder_121 : decode cX2_advanceOrder 121 = .ok (.iconst 1, 1) := by decide +kernel
theorem dX2_advanceOrder_122 : decode cX2_advanceOrder 122 = .ok (.ireturn, 1) := by decide +kernel
set_option maxRecDepth 20000 in
theorem ggX2_timeByInsertion_X2_insert : GoodIn wsX2_timeByInsertion wsX2_insert := goodIn_r _ [7, 2, 8, 9, 10, 11, 12, 13, 6, 14, 15, 16, 17, 18, 19, 20, 21, 22, 23, 24, 25, 26, 27, 28, 29, 30, 31] (by decide +kernel) (by decide +kernel)
set_option maxRecDepth 20000 in
theorem gX2_timeByInsertion_X2_insert : GoodIn wsX2_timeByInsertion (wsV RX2 96 RX2 yX2_insert wsX2_insert) := goodIn_app (goodIn_of _ (by decide +kernel)) ggX2_timeByInsertion_X2_insert
set_option maxRecDepth 20000 in
theorem ggX2_timeByInsertion_X2_timeOf : GoodIn wsX2_timeByInsertion wsX2_timeOf := goodIn_r _ [14, 15, 9, 16, 17, 18, 19, 6, 20, 21, 26, 27, 28, 29, 30, 31] (by decide +kernel) (by decide +kernel)
set_option maxRecDepth 20000 in
theorem gX2_timeByInsertion_X2_timeOf : GoodIn wsX2_timeByInsertion (wsV RX2 80 RX2 yX2_timeOf wsX2_timeOf) := goodIn_app (goodIn_of _ (by decide +kernel)) ggX2_timeByInsertion_X2_timeOf
theorem dX2_timeByInsertion_0 : decode cX2_timeByInsertion 0 = .ok (.iconst 0, 1) := by decide +kernel
theorem dX2_timeByInsertion_1 : decode cX2_timeByInsertion 1 = .ok (.istore_n 1, 1) := by decide +kernel
theorem dX2_timeByInsertion_2 : decode cX2_timeByInsertion 2 = .ok (.iload_n 1, 1) := by decide +kernel
theorem dX2_timeByInsertion_3 : decode cX2_timeByInsertion 3 = .ok (.aload_n 0, 1) := by decide +kernel
theorem dX2_timeByInsertion_4 : decode cX2_timeByInsertion 4 = .ok (.getfield 9, 3) := by decide +kernel
theorem dX2_timeByInsertion_7 : decode cX2_timeByInsertion 7 = .ok (.if_icmp .ge 14, 3) := by decide +kernel
theorem dX2_timeByInsertion_10 : decode cX2_timeByInsertion 10 = .ok (.aload_n 0, 1) := by decide +kernel
theorem dX2_timeByInsertion_11 : decode cX2_timeByInsertion 11 = .ok (.iload_n 1, 1) := by decide +kernel
theorem dX2_timeByInsertion_12 : decode cX2_timeByInsertion 12 = .ok (.invokevirtual 96, 3) := by decide +kernel
theorem dX2_timeByInsertion_15 : decode cX2_timeByInsertion 15 = .ok (.iinc 1 1, 3) := by decide +kernel
theorem dX2_timeByInsertion_18 : decode cX2_timeByInsertion 18 = .ok (.goto (-16), 3) := by decide +kernel
theorem dX2_timeByInsertion_21 : decode cX2_timeByInsertion 21 = .ok (.aload_n 0, 1) := by decide +kernel
theorem dX2_timeByInsertion_22 : decode cX2_timeByInsertion 22 = .ok (.aload_n 0, 1) := by decide +kernel
theorem dX2_timeByInsertion_23 : decode cX2_timeByInsertion 23 = .ok (.getfield 28, 3) := by decide +kernel
theorem dX2_timeByInsertion_26 : decode cX2_timeByInsertion 26 = .ok (.aload_n 0, 1) := by decide +kernel
theorem dX2_timeByInsertion_27 : decode cX2_timeByInsertion 27 = .ok (.getfield 9, 3) := by decide +kernel
theorem dX2_timeByInsertion_30 : decode cX2_timeByInsertion 30 = .ok (.invokevirtual 80, 3) := by decide +kernel
theorem dX2_timeByInsertion_33 : decode cX2_timeByInsertion 33 = .ok (.ireturn, 1) := by decide +kernel
set_option maxRecDepth 20000 in
theorem ggX2_insert_X4_put : GoodIn wsX2_insert wsX4_put := goodIn_r _ [4] (by decide +kernel) (by decide +kernel)
set_option maxRecDepth 20000 in
theorem gX2_insert_X4_put_n59 : GoodIn wsX2_insert (wsX4_put) := ggX2_insert_X4_put
set_option maxRecDepth 20000 in
theorem ggX2_insert_X2_timeOf : GoodIn wsX2_insert wsX2_timeOf := goodIn_r _ [9, 10, 3, 11, 12, 13, 14, 8, 15, 16, 21, 22, 23, 24, 25, 26] (by decide +kernel) (by decide +kernel)
set_option maxRecDepth 20000 in
theorem gX2_insert_X2_timeOf : GoodIn wsX2_insert (wsV RX2 80 RX2 yX2_timeOf wsX2_timeOf) := goodIn_app (goodIn_of _ (by decide +kernel)) ggX2_insert_X2_timeOf
set_option maxRecDepth 20000 in
theorem ggX2_insert_X2_swap : GoodIn wsX2_insert wsX2_swap := goodIn_r _ [20, 1, 10, 3, 11, 2, 4, 21, 22, 23, 24, 25, 26] (by decide +kernel) (by decide +kernel)
set_option maxRecDepth 20000 in
theorem gX2_insert_X2_swap : GoodIn wsX2_insert (wsV RX2 92 RX2 yX2_swap wsX2_swap) := goodIn_app (goodIn_of _ (by decide +kernel)) ggX2_insert_X2_swap
theorem dX2_insert_0 : decode cX2_insert 0 = .ok (.aload_n 0, 1) := by decide +kernel
theorem dX2_insert_1 : decode cX2_insert 1 = .ok (.getfield 28, 3) := by decide +kernel
theorem dX2_insert_4 : decode cX2_insert 4 = .ok (.iload_n 1, 1) := by decide +kernel
theorem dX2_insert_5 : decode cX2_insert 5 = .ok (.iload_n 1, 1) := by decide +kernel
theorem dX2_insert_6 : decode cX2_insert 6 = .ok (.invokestatic 59, 3) := by decide +kernel
theorem dX2_insert_9 : decode cX2_insert 9 = .ok (.aload_n 0, 1) := by decide +kernel
theorem dX2_insert_10 : decode cX2_insert 10 = .ok (.aload_n 0, 1) := by decide +kernel
theorem dX2_insert_11 : decode cX2_insert 11 = .ok (.getfield 28, 3) := by decide +kernel
theorem dX2_insert_14 : decode cX2_insert 14 = .ok (.iload_n 1, 1) := by decide +kernel
theorem dX2_insert_15 : decode cX2_insert 15 = .ok (.iconst 1, 1) := by decide +kernel
theorem dX2_insert_16 : decode cX2_insert 16 = .ok (.iadd, 1) := by decide +kernel
theorem dX2_insert_17 : decode cX2_insert 17 = .ok (.invokevirtual 80, 3) := by decide +kernel
theorem dX2_insert_20 : decode cX2_insert 20 = .ok (.istore_n 2, 1) := by decide +kernel
theorem dX2_insert_21 : decode cX2_insert 21 = .ok (.iload_n 1, 1) := by decide +kernel
theorem dX2_insert_22 : decode cX2_insert 22 = .ok (.istore_n 3, 1) := by decide +kernel
theorem dX2_insert_23 : decode cX2_insert 23 = .ok (.iload_n 1, 1) := by decide +kernel
theorem dX2_insert_24 : decode cX2_insert 24 = .ok (.iconst 1, 1) := by decide +kernel
theorem dX2_insert_25 : decode cX2_insert 25 = .ok (.isub, 1) := by decide +kernel
theorem dX2_insert_26 : decode cX2_insert 26 = .ok (.istore 4, 2) := by decide +kernel
theorem dX2_insert_28 : decode cX2_insert 28 = .ok (.iload 4, 2) := by decide +kernel
theorem dX2_insert_30 : decode cX2_insert 30 = .ok (.ifCond .lt 44, 3) := by decide +kernel
theorem dX2_insert_33 : decode cX2_insert 33 = .ok (.aload_n 0, 1) := by decide +kernel
theorem dX2_insert_34 : decode cX2_insert 34 = .ok (.iload 4, 2) := by decide +kernel
theorem dX2_insert_36 : decode cX2_insert 36 = .ok (.iload 4, 2) := by decide +kernel
theorem dX2_insert_38 : decode cX2_insert 38 = .ok (.iconst 1, 1) := by decide +kernel
theorem dX2_insert_39 : decode cX2_insert 39 = .ok (.iadd, 1) := by decide +kernel
theorem dX2_insert_40 : decode cX2_insert 40 = .ok (.invokevirtual 92, 3) := by decide +kernel
theorem dX2_insert_43 : decode cX2_insert 43 = .ok (.aload_n 0, 1) := by decide +kernel
theorem dX2_insert_44 : decode cX2_insert 44 = .ok (.aload_n 0, 1) := by decide +kernel
theorem dX2_insert_45 : decode cX2_insert 45 = .ok (.getfield 28, 3) := by decide +kernel
theorem dX2_insert_48 : decode cX2_insert 48 = .ok (.iload_n 1, 1) := by decide +kernel
theorem dX2_insert_49 : decode cX2_insert 49 = .ok (.iconst 1, 1) := by decide +kernel
theorem dX2_insert_50 : decode cX2_insert 50 = .ok (.iadd, 1) := by decide +kernel
theorem dX2_insert_51 : decode cX2_insert 51 = .ok (.invokevirtual 80, 3) := by decide +kernel
theorem dX2_insert_54 : decode cX2_insert 54 = .ok (.istore 5, 2) := by decide +kernel
theorem dX2_insert_56 : decode cX2_insert 56 = .ok (.iload 5, 2) := by decide +kernel
theorem dX2_insert_58 : decode cX2_insert 58 = .ok (.iload_n 2, 1) := by decide +kernel
theorem dX2_insert_59 : decode cX2_insert 59 = .ok (.if_icmp .gt 9, 3) := by decide +kernel
theorem dX2_insert_62 : decode cX2_insert 62 = .ok (.iload 5, 2) := by decide +kernel
theorem dX2_insert_64 : decode cX2_insert 64 = .ok (.istore_n 2, 1) := by decide +kernel
theorem dX2_insert_65 : decode cX2_insert 65 = .ok (.iload 4, 2) := by decide +kernel
theorem dX2_insert_67 : decode cX2_insert 67 = .ok (.istore_n 3, 1) := by decide +kernel
theorem dX2_insert_68 : decode cX2_insert 68 = .ok (.iinc 4 (-1), 3) := by decide +kernel
theorem dX2_insert_71 : decode cX2_insert 71 = .ok (.goto (-43), 3) := by decide +kernel
theorem dX2_insert_74 : decode cX2_insert 74 = .ok (.iconst 0, 1) := by decide +kernel
theorem dX2_insert_75 : decode cX2_insert 75 = .ok (.istore 4, 2) := by decide +kernel
theorem dX2_insert_77 : decode cX2_insert 77 = .ok (.iload 4, 2) := by decide +kernel
theorem dX2_insert_79 : decode cX2_insert 79 = .ok (.iload_n 3, 1) := by decide +kernel
theorem dX2_insert_80 : decode cX2_insert 80 = .ok (.if_icmp .ge 19, 3) := by decide +kernel
theorem dX2_insert_83 : decode cX2_insert 83 = .ok (.aload_n 0, 1) := by decide +kernel
theorem dX2_insert_84 : decode cX2_insert 84 = .ok (.iload 4, 2) := by decide +kernel
theorem dX2_insert_86 : decode cX2_insert 86 = .ok (.iload 4, 2) := by decide +kernel
theorem dX2_insert_88 : decode cX2_insert 88 = .ok (.iconst 1, 1) := by decide +kernel
theorem dX2_insert_89 : decode cX2_insert 89 = .ok (.iadd, 1) := by decide +kernel
theorem dX2_insert_90 : decode cX2_insert 90 = .ok (.invokevirtual 92, 3) := by decide +kernel
theorem dX2_insert_93 : decode cX2_insert 93 = .ok (.iinc 4 1, 3) := by decide +kernel
theorem dX2_insert_96 : decode cX2_insert 96 = .ok (.goto (-19), 3) := by decide +kernel
theorem dX2_insert_99 : decode cX2_insert 99 = .ok (.return_, 1) := by decide +kernel
set_option maxRecDepth 20000 in
theorem ggX2_swap_X4_at : GoodIn wsX2_swap wsX4_at := goodIn_r _ [4] (by decide +kernel) (by decide +kernel)
set_option maxRecDepth 20000 in
theorem gX2_swap_X4_at_n42 : GoodIn wsX2_swap (wsX4_at) := ggX2_swap_X4_at
set_option maxRecDepth 20000 in
theorem ggX2_swap_X4_put : GoodIn wsX2_swap wsX4_put := goodIn_r _ [6] (by decide +kernel) (by decide +kernel)
set_option maxRecDepth 20000 in
theorem gX2_swap_X4_put_n59 : GoodIn wsX2_swap (wsX4_put) := ggX2_swap_X4_put
theorem dX2_swap_0 : decode cX2_swap 0 = .ok (.aload_n 0, 1) := by decide +kernel
theorem dX2_swap_1 : decode cX2_swap 1 = .ok (.getfield 28, 3) := by decide +kernel
theorem dX2_swap_4 : decode cX2_swap 4 = .ok (.iload_n 1, 1) := by decide +kernel
theorem dX2_swap_5 : decode cX2_swap 5 = .ok (.invokestatic 42, 3) := by decide +kernel
theorem dX2_swap_8 : decode cX2_swap 8 = .ok (.istore_n 3, 1) := by decide +kernel
theorem dX2_swap_9 : decode cX2_swap 9 = .ok (.aload_n 0, 1) := by decide +kernel
theorem dX2_swap_10 : decode cX2_swap 10 = .ok (.getfield 28, 3) := by decide +kernel
theorem dX2_swap_13 : decode cX2_swap 13 = .ok (.iload_n 1, 1) := by decide +kernel
theorem dX2_swap_14 : decode cX2_swap 14 = .ok (.aload_n 0, 1) := by decide +kernel
theorem dX2_swap_15 : decode cX2_swap 15 = .ok (.getfield 28, 3) := by decide +kernel
theorem dX2_swap_18 : decode cX2_swap 18 = .ok (.iload_n 2, 1) := by decide +kernel
theorem dX2_swap_19 : decode cX2_swap 19 = .ok (.invokestatic 42, 3) := by decide +kernel
theorem dX2_swap_22 : decode cX2_swap 22 = .ok (.invokestatic 59, 3) := by decide +kernel
theorem dX2_swap_25 : decode cX2_swap 25 = .ok (.aload_n 0, 1) := by decide +kernel
theorem dX2_swap_26 : decode cX2_swap 26 = .ok (.getfield 28, 3) := by decide +kernel
theorem dX2_swap_29 : decode cX2_swap 29 = .ok (.iload_n 2, 1) := by decide +kernel
theorem dX2_swap_30 : decode cX2_swap 30 = .ok (.iload_n 3, 1) := by decide +kernel
theorem dX2_swap_31 : decode cX2_swap 31 = .ok (.invokestatic 59, 3) := by decide +kernel
theorem dX2_swap_34 : decode cX2_swap 34 = .ok (.return_, 1) := by decide +kernel
theorem dX3_init_0 : decode cX3_init 0 = .ok (.aload_n 0, 1) := by decide +kernel
theorem dX3_init_1 : decode cX3_init 1 = .ok (.invokespecial 3, 3) := by decide +kernel
theorem dX3_init_4 : decode cX3_init 4 = .ok (.aload_n 0, 1) := by decide +kernel
theorem dX3_init_5 : decode cX3_init 5 = .ok (.iconst (-1), 1) := by decide +kernel
theorem dX3_init_6 : decode cX3_init 6 = .ok (.putfield 9, 3) := by decide +kernel
theorem dX3_init_9 : decode cX3_init 9 = .ok (.aload_n 0, 1) := by decide +kernel
theorem dX3_init_10 : decode cX3_init 10 = .ok (.iconst 1, 1) := by decide +kernel
theorem dX3_init_11 : decode cX3_init 11 = .ok (.putfield 15, 3) := by decide +kernel
theorem dX3_init_14 : decode cX3_init 14 = .ok (.aload_n 0, 1) := by decide +kernel
theorem dX3_init_15 : decode cX3_init 15 = .ok (.iconst 0, 1) := by decide +kernel
theorem dX3_init_16 : decode cX3_init 16 = .ok (.putfield 19, 3) := by decide +kernel
theorem dX3_init_19 : decode cX3_init 19 = .ok (.aload_n 0, 1) := by decide +kernel
theorem dX3_init_20 : decode cX3_init 20 = .ok (.bipush 11, 2) := by decide +kernel
theorem dX3_init_22 : decode cX3_init 22 = .ok (.newarray .int, 2) := by decide +kernel
theorem dX3_init_24 : decode cX3_init 24 = .ok (.putfield 22, 3) := by decide +kernel
theorem dX3_init_27 : decode cX3_init 27 = .ok (.aload_n 0, 1) := by decide +kernel
theorem dX3_init_28 : decode cX3_init 28 = .ok (.iload_n 1, 1) := by decide +kernel
theorem dX3_init_29 : decode cX3_init 29 = .ok (.putfield 26, 3) := by decide +kernel
theorem dX3_init_32 : decode cX3_init 32 = .ok (.aload_n 0, 1) := by decide +kernel
theorem dX3_init_33 : decode cX3_init 33 = .ok (.iload_n 2, 1) := by decide +kernel
theorem dX3_init_34 : decode cX3_init 34 = .ok (.putfield 29, 3) := by decide +kernel
theorem dX3_init_37 : decode cX3_init 37 = .ok (.aload_n 0, 1) := by decide +kernel
theorem dX3_init_38 : decode cX3_init 38 = .ok (.iload_n 3, 1) := by decide +kernel
theorem dX3_init_39 : decode cX3_init 39 = .ok (.putfield 32, 3) := by decide +kernel
theorem dX3_init_42 : decode cX3_init 42 = .ok (.aload_n 0, 1) := by decide +kernel
theorem dX3_init_43 : decode cX3_init 43 = .ok (.iload 4, 2) := by decide +kernel
theorem dX3_init_45 : decode cX3_init 45 = .ok (.putfield 35, 3) := by decide +kernel
theorem dX3_init_48 : decode cX3_init 48 = .ok (.return_, 1) := by decide +kernel
theorem dX3_isInDrive_0 : decode cX3_isInDrive 0 = .ok (.aload_n 0, 1) := by decide +kernel
theorem dX3_isInDrive_1 : decode cX3_isInDrive 1 = .ok (.getfield 9, 3) := by decide +kernel
theorem dX3_isInDrive_4 : decode cX3_isInDrive 4 = .ok (.iconst (-1), 1) := by decide +kernel
theorem dX3_isInDrive_5 : decode cX3_isInDrive 5 = .ok (.if_icmp .eq 7, 3) := by decide +kernel
theorem dX3_isInDrive_8 : decode cX3_isInDrive 8 = .ok (.iconst 1, 1) := by decide +kernel
theorem dX3_isInDrive_9 : decode cX3_isInDrive 9 = .ok (.goto 4, 3) := by decide +kernel
theorem dX3_isInDrive_12 : decode cX3_isInDrive 12 = .ok (.iconst 0, 1) := by decide +kernel
theorem dX3_isInDrive_13 : decode cX3_isInDrive 13 = .ok (.ireturn, 1) := by decide +kernel
theorem dX3_places_0 : decode cX3_places 0 = .ok (.aload_n 0, 1) := by decide +kernel
theorem dX3_places_1 : decode cX3_places 1 = .ok (.getfield 29, 3) := by decide +kernel
theorem dX3_places_4 : decode cX3_places 4 = .ok (.aload_n 0, 1) := by decide +kernel
theorem dX3_places_5 : decode cX3_places 5 = .ok (.getfield 32, 3) := by decide +kernel
theorem dX3_places_8 : decode cX3_places 8 = .ok (.imul, 1) := by decide +kernel
theorem dX3_places_9 : decode cX3_places 9 = .ok (.ireturn, 1) := by decide +kernel
set_option maxRecDepth 20000 in
theorem ggX3_beginOf_X4_at : GoodIn wsX3_beginOf wsX4_at := goodIn_r _ [4] (by decide +kernel) (by decide +kernel)
set_option maxRecDepth 20000 in
theorem gX3_beginOf_X4_at_n38 : GoodIn wsX3_beginOf (wsX4_at) := ggX3_beginOf_X4_at
theorem dX3_beginOf_0 : decode cX3_beginOf 0 = .ok (.aload_n 0, 1) := by decide +kernel
theorem dX3_beginOf_1 : decode cX3_beginOf 1 = .ok (.getfield 22, 3) := by decide +kernel
theorem dX3_beginOf_4 : decode cX3_beginOf 4 = .ok (.iload_n 1, 1) := by decide +kernel
theorem dX3_beginOf_5 : decode cX3_beginOf 5 = .ok (.invokestatic 38, 3) := by decide +kernel
theorem dX3_beginOf_8 : decode cX3_beginOf 8 = .ok (.ireturn, 1) := by decide +kernel
set_option maxRecDepth 20000 in
theorem ggX3_endOf_X4_at : GoodIn wsX3_endOf wsX4_at := goodIn_r _ [4] (by decide +kernel) (by decide +kernel)
set_option maxRecDepth 20000 in
theorem gX3_endOf_X4_at_n38 : GoodIn wsX3_endOf (wsX4_at) := ggX3_endOf_X4_at
theorem dX3_endOf_0 : decode cX3_endOf 0 = .ok (.aload_n 0, 1) := by decide +kernel
theorem dX3_endOf_1 : decode cX3_endOf 1 = .ok (.getfield 22, 3) := by decide +kernel
theorem dX3_endOf_4 : decode cX3_endOf 4 = .ok (.iload_n 1, 1) := by decide +kernel
theorem dX3_endOf_5 : decode cX3_endOf 5 = .ok (.iconst 1, 1) := by decide +kernel
theorem dX3_endOf_6 : decode cX3_endOf 6 = .ok (.iadd, 1) := by decide +kernel
theorem dX3_endOf_7 : decode cX3_endOf 7 = .ok (.invokestatic 38, 3) := by decide +kernel
theorem dX3_endOf_10 : decode cX3_endOf 10 = .ok (.ireturn, 1) := by decide +kernel
set_option maxRecDepth 20000 in
theorem ggX3_hasRoomFor_X3_beginOf : GoodIn wsX3_hasRoomFor wsX3_beginOf := goodIn_r _ [6, 7, 8, 9, 10, 17, 18, 19, 20, 21, 22, 23, 24] (by decide +kernel) (by decide +kernel)
set_option maxRecDepth 20000 in
theorem gX3_hasRoomFor_X3_beginOf : GoodIn wsX3_hasRoomFor (wsV RX3 42 RX3 yX3_beginOf wsX3_beginOf) := goodIn_app (goodIn_of _ (by decide +kernel)) ggX3_hasRoomFor_X3_beginOf
set_option maxRecDepth 20000 in
theorem ggX3_hasRoomFor_X3_places : GoodIn wsX3_hasRoomFor wsX3_places := goodIn_r _ [14, 15, 16, 17, 18, 19, 20, 21, 22, 23, 24] (by decide +kernel) (by decide +kernel)
set_option maxRecDepth 20000 in
theorem gX3_hasRoomFor_X3_places : GoodIn wsX3_hasRoomFor (wsV RX3 46 RX3 yX3_places wsX3_places) := goodIn_app (goodIn_of _ (by decide +kernel)) ggX3_hasRoomFor_X3_places
theorem dX3_hasRoomFor_0 : decode cX3_hasRoomFor 0 = .ok (.aload_n 0, 1) := by decide +kernel
theorem dX3_hasRoomFor_1 : decode cX3_hasRoomFor 1 = .ok (.getfield 19, 3) := by decide +kernel
theorem dX3_hasRoomFor_4 : decode cX3_hasRoomFor 4 = .ok (.bipush 10, 2) := by decide +kernel
theorem dX3_hasRoomFor_6 : decode cX3_hasRoomFor 6 = .ok (.if_icmp .ge 24, 3) := by decide +kernel
theorem dX3_hasRoomFor_9 : decode cX3_hasRoomFor 9 = .ok (.aload_n 0, 1) := by decide +kernel
theorem dX3_hasRoomFor_10 : decode cX3_hasRoomFor 10 = .ok (.aload_n 0, 1) := by decide +kernel
theorem dX3_hasRoomFor_11 : decode cX3_hasRoomFor 11 = .ok (.getfield 19, 3) := by decide +kernel
theorem dX3_hasRoomFor_14 : decode cX3_hasRoomFor 14 = .ok (.invokevirtual 42, 3) := by decide +kernel
theorem dX3_hasRoomFor_17 : decode cX3_hasRoomFor 17 = .ok (.iload_n 1, 1) := by decide +kernel
theorem dX3_hasRoomFor_18 : decode cX3_hasRoomFor 18 = .ok (.iadd, 1) := by decide +kernel
theorem dX3_hasRoomFor_19 : decode cX3_hasRoomFor 19 = .ok (.aload_n 0, 1) := by decide +kernel
theorem dX3_hasRoomFor_20 : decode cX3_hasRoomFor 20 = .ok (.invokevirtual 46, 3) := by decide +kernel
theorem dX3_hasRoomFor_23 : decode cX3_hasRoomFor 23 = .ok (.if_icmp .gt 7, 3) := by decide +kernel
theorem dX3_hasRoomFor_26 : decode cX3_hasRoomFor 26 = .ok (.iconst 1, 1) := by decide +kernel
theorem dX3_hasRoomFor_27 : decode cX3_hasRoomFor 27 = .ok (.goto 4, 3) := by decide +kernel
theorem dX3_hasRoomFor_30 : decode cX3_hasRoomFor 30 = .ok (.iconst 0, 1) := by decide +kernel
theorem dX3_hasRoomFor_31 : decode cX3_hasRoomFor 31 = .ok (.ireturn, 1) := by decide +kernel
set_option maxRecDepth 20000 in
theorem ggX3_append_X3_beginOf : GoodIn wsX3_append wsX3_beginOf := goodIn_r _ [7, 1, 8, 9, 10, 13, 14, 15, 16, 17, 18, 19, 20] (by decide +kernel) (by decide +kernel)
set_option maxRecDepth 20000 in
theorem gX3_append_X3_beginOf : GoodIn wsX3_append (wsV RX3 42 RX3 yX3_beginOf wsX3_beginOf) := goodIn_app (goodIn_of _ (by decide +kernel)) ggX3_append_X3_beginOf
set_option maxRecDepth 20000 in
theorem ggX3_append_X4_put : GoodIn wsX3_append wsX4_put := goodIn_r _ [12] (by decide +kernel) (by decide +kernel)
set_option maxRecDepth 20000 in
theorem gX3_append_X4_put_n50 : GoodIn wsX3_append (wsX4_put) := ggX3_append_X4_put
theorem dX3_append_0 : decode cX3_append 0 = .ok (.aload_n 0, 1) := by decide +kernel
theorem dX3_append_1 : decode cX3_append 1 = .ok (.getfield 22, 3) := by decide +kernel
theorem dX3_append_4 : decode cX3_append 4 = .ok (.aload_n 0, 1) := by decide +kernel
theorem dX3_append_5 : decode cX3_append 5 = .ok (.getfield 19, 3) := by decide +kernel
theorem dX3_append_8 : decode cX3_append 8 = .ok (.iconst 1, 1) := by decide +kernel
theorem dX3_append_9 : decode cX3_append 9 = .ok (.iadd, 1) := by decide +kernel
theorem dX3_append_10 : decode cX3_append 10 = .ok (.aload_n 0, 1) := by decide +kernel
theorem dX3_append_11 : decode cX3_append 11 = .ok (.aload_n 0, 1) := by decide +kernel
theorem dX3_append_12 : decode cX3_append 12 = .ok (.getfield 19, 3) := by decide +kernel
theorem dX3_append_15 : decode cX3_append 15 = .ok (.invokevirtual 42, 3) := by decide +kernel
theorem dX3_append_18 : decode cX3_append 18 = .ok (.iload_n 1, 1) := by decide +kernel
theorem dX3_append_19 : decode cX3_append 19 = .ok (.iadd, 1) := by decide +kernel
theorem dX3_append_20 : decode cX3_append 20 = .ok (.invokestatic 50, 3) := by decide +kernel
theorem dX3_append_23 : decode cX3_append 23 = .ok (.aload_n 0, 1) := by decide +kernel
theorem dX3_append_24 : decode cX3_append 24 = .ok (.dup, 1) := by decide +kernel
theorem dX3_append_25 : decode cX3_append 25 = .ok (.getfield 19, 3) := by decide +kernel
theorem dX3_append_28 : decode cX3_append 28 = .ok (.iconst 1, 1) := by decide +kernel
theorem dX3_append_29 : decode cX3_append 29 = .ok (.iadd, 1) := by decide +kernel
theorem dX3_append_30 : decode cX3_append 30 = .ok (.putfield 19, 3) := by decide +kernel
theorem dX3_append_33 : decode cX3_append 33 = .ok (.aload_n 0, 1) := by decide +kernel
theorem dX3_append_34 : decode cX3_append 34 = .ok (.getfield 19, 3) := by decide +kernel
theorem dX3_append_37 : decode cX3_append 37 = .ok (.iconst 1, 1) := by decide +kernel
theorem dX3_append_38 : decode cX3_append 38 = .ok (.isub, 1) := by decide +kernel
theorem dX3_append_39 : decode cX3_append 39 = .ok (.ireturn, 1) := by decide +kernel
theorem dX3_trackOf_0 : decode cX3_trackOf 0 = .ok (.aload_n 0, 1) := by decide +kernel
theorem dX3_trackOf_1 : decode cX3_trackOf 1 = .ok (.getfield 32, 3) := by decide +kernel
theorem dX3_trackOf_4 : decode cX3_trackOf 4 = .ok (.ifCond .le 12, 3) := by decide +kernel
theorem dX3_trackOf_7 : decode cX3_trackOf 7 = .ok (.iload_n 1, 1) := by decide +kernel
theorem dX3_trackOf_8 : decode cX3_trackOf 8 = .ok (.aload_n 0, 1) := by decide +kernel
theorem dX3_trackOf_9 : decode cX3_trackOf 9 = .ok (.getfield 32, 3) := by decide +kernel
theorem dX3_trackOf_12 : decode cX3_trackOf 12 = .ok (.idiv, 1) := by decide +kernel
theorem dX3_trackOf_13 : decode cX3_trackOf 13 = .ok (.goto 4, 3) := by decide +kernel
theorem dX3_trackOf_16 : decode cX3_trackOf 16 = .ok (.iconst 0, 1) := by decide +kernel
theorem dX3_trackOf_17 : decode cX3_trackOf 17 = .ok (.istore_n 2, 1) := by decide +kernel
theorem dX3_trackOf_18 : decode cX3_trackOf 18 = .ok (.iload_n 2, 1) := by decide +kernel
theorem dX3_trackOf_19 : decode cX3_trackOf 19 = .ok (.aload_n 0, 1) := by decide +kernel
theorem dX3_trackOf_20 : decode cX3_trackOf 20 = .ok (.getfield 29, 3) := by decide +kernel
theorem dX3_trackOf_23 : decode cX3_trackOf 23 = .ok (.if_icmp .ge 7, 3) := by decide +kernel
theorem dX3_trackOf_26 : decode cX3_trackOf 26 = .ok (.iload_n 2, 1) := by decide +kernel
theorem dX3_trackOf_27 : decode cX3_trackOf 27 = .ok (.goto 9, 3) := by decide +kernel
theorem dX3_trackOf_30 : decode cX3_trackOf 30 = .ok (.aload_n 0, 1) := by decide +kernel
theorem dX3_trackOf_31 : decode cX3_trackOf 31 = .ok (.getfield 29, 3) := by decide +kernel
theorem dX3_trackOf_34 : decode cX3_trackOf 34 = .ok (.iconst 1, 1) := by decide +kernel
theorem dX3_trackOf_35 : decode cX3_trackOf 35 = .ok (.isub, 1) := by decide +kernel
theorem dX3_trackOf_36 : decode cX3_trackOf 36 = .ok (.ireturn, 1) := by decide +kernel
set_option maxRecDepth 20000 in
theorem ggX3_distanceAlong_X3_trackOf : GoodIn wsX3_distanceAlong wsX3_trackOf := goodIn_r _ [10, 1, 11, 12, 13, 14, 15, 16, 17, 18, 19] (by decide +kernel) (by decide +kernel)
set_option maxRecDepth 20000 in
theorem gX3_distanceAlong_X3_trackOf : GoodIn wsX3_distanceAlong (wsV RX3 54 RX3 yX3_trackOf wsX3_trackOf) := goodIn_app (goodIn_of _ (by decide +kernel)) ggX3_distanceAlong_X3_trackOf
theorem dX3_distanceAlong_0 : decode cX3_distanceAlong 0 = .ok (.aload_n 0, 1) := by decide +kernel
theorem dX3_distanceAlong_1 : decode cX3_distanceAlong 1 = .ok (.iload_n 1, 1) := by decide +kernel
theorem dX3_distanceAlong_2 : decode cX3_distanceAlong 2 = .ok (.invokevirtual 54, 3) := by decide +kernel
theorem dX3_distanceAlong_5 : decode cX3_distanceAlong 5 = .ok (.istore_n 2, 1) := by decide +kernel
theorem dX3_distanceAlong_6 : decode cX3_distanceAlong 6 = .ok (.iload_n 1, 1) := by decide +kernel
theorem dX3_distanceAlong_7 : decode cX3_distanceAlong 7 = .ok (.iload_n 2, 1) := by decide +kernel
theorem dX3_distanceAlong_8 : decode cX3_distanceAlong 8 = .ok (.aload_n 0, 1) := by decide +kernel
theorem dX3_distanceAlong_9 : decode cX3_distanceAlong 9 = .ok (.getfield 32, 3) := by decide +kernel
theorem dX3_distanceAlong_12 : decode cX3_distanceAlong 12 = .ok (.imul, 1) := by decide +kernel
theorem dX3_distanceAlong_13 : decode cX3_distanceAlong 13 = .ok (.isub, 1) := by decide +kernel
theorem dX3_distanceAlong_14 : decode cX3_distanceAlong 14 = .ok (.aload_n 0, 1) := by decide +kernel
theorem dX3_distanceAlong_15 : decode cX3_distanceAlong 15 = .ok (.getfield 32, 3) := by decide +kernel
theorem dX3_distanceAlong_18 : decode cX3_distanceAlong 18 = .ok (.iconst 1, 1) := by decide +kernel
theorem dX3_distanceAlong_19 : decode cX3_distanceAlong 19 = .ok (.isub, 1) := by decide +kernel
theorem dX3_distanceAlong_20 : decode cX3_distanceAlong 20 = .ok (.invokestatic 57, 3) := by decide +kernel
theorem dX3_distanceAlong_23 : decode cX3_distanceAlong 23 = .ok (.istore_n 3, 1) := by decide +kernel
theorem dX3_distanceAlong_24 : decode cX3_distanceAlong 24 = .ok (.iload_n 2, 1) := by decide +kernel
theorem dX3_distanceAlong_25 : decode cX3_distanceAlong 25 = .ok (.iconst 1, 1) := by decide +kernel
theorem dX3_distanceAlong_26 : decode cX3_distanceAlong 26 = .ok (.iand, 1) := by decide +kernel
theorem dX3_distanceAlong_27 : decode cX3_distanceAlong 27 = .ok (.ifCond .ne 7, 3) := by decide +kernel
theorem dX3_distanceAlong_30 : decode cX3_distanceAlong 30 = .ok (.iload_n 3, 1) := by decide +kernel
theorem dX3_distanceAlong_31 : decode cX3_distanceAlong 31 = .ok (.goto 11, 3) := by decide +kernel
theorem dX3_distanceAlong_34 : decode cX3_distanceAlong 34 = .ok (.aload_n 0, 1) := by decide +kernel
theorem dX3_distanceAlong_35 : decode cX3_distanceAlong 35 = .ok (.getfield 32, 3) := by decide +kernel
theorem dX3_distanceAlong_38 : decode cX3_distanceAlong 38 = .ok (.iconst 1, 1) := by decide +kernel
theorem dX3_distanceAlong_39 : decode cX3_distanceAlong 39 = .ok (.isub, 1) := by decide +kernel
theorem dX3_distanceAlong_40 : decode cX3_distanceAlong 40 = .ok (.iload_n 3, 1) := by decide +kernel
theorem dX3_distanceAlong_41 : decode cX3_distanceAlong 41 = .ok (.isub, 1) := by decide +kernel
theorem dX3_distanceAlong_42 : decode cX3_distanceAlong 42 = .ok (.ireturn, 1) := by decide +kernel
set_option maxRecDepth 20000 in
theorem ggX4_init_X1_init : GoodIn wsX4_init wsX1_init := goodIn_r _ [19, 20, 2, 3, 21, 22, 23, 24, 25, 26, 42, 43, 44, 45, 46] (by decide +kernel) (by decide +kernel)
set_option maxRecDepth 20000 in
theorem gX4_init_X1_init_n30 : GoodIn wsX4_init (wsX1_init) := ggX4_init_X1_init
set_option maxRecDepth 20000 in
theorem ggX4_init_X2_init : GoodIn wsX4_init wsX2_init := goodIn_r _ [28, 29, 2, 3, 30, 23, 31, 32, 33, 34, 35, 47, 48, 49, 50, 51, 52] (by decide +kernel) (by decide +kernel)
set_option maxRecDepth 20000 in
theorem gX4_init_X2_init_n37 : GoodIn wsX4_init (wsX2_init) := ggX4_init_X2_init
theorem dX4_init_0 : decode cX4_init 0 = .ok (.aload_n 0, 1) := by decide +kernel
theorem dX4_init_1 : decode cX4_init 1 = .ok (.invokespecial 1, 3) := by decide +kernel
theorem dX4_init_4 : decode cX4_init 4 = .ok (.aload_n 0, 1) := by decide +kernel
theorem dX4_init_5 : decode cX4_init 5 = .ok (.bipush 8, 2) := by decide +kernel
theorem dX4_init_7 : decode cX4_init 7 = .ok (.anewarray 9, 3) := by decide +kernel
theorem dX4_init_10 : decode cX4_init 10 = .ok (.putfield 11, 3) := by decide +kernel
theorem dX4_init_13 : decode cX4_init 13 = .ok (.aload_n 0, 1) := by decide +kernel
theorem dX4_init_14 : decode cX4_init 14 = .ok (.iconst 0, 1) := by decide +kernel
theorem dX4_init_15 : decode cX4_init 15 = .ok (.putfield 15, 3) := by decide +kernel
theorem dX4_init_18 : decode cX4_init 18 = .ok (.aload_n 0, 1) := by decide +kernel
theorem dX4_init_19 : decode cX4_init 19 = .ok (.iconst 3, 1) := by decide +kernel
theorem dX4_init_20 : decode cX4_init 20 = .ok (.anewarray 19, 3) := by decide +kernel
theorem dX4_init_23 : decode cX4_init 23 = .ok (.putfield 21, 3) := by decide +kernel
theorem dX4_init_26 : decode cX4_init 26 = .ok (.aload_n 0, 1) := by decide +kernel
theorem dX4_init_27 : decode cX4_init 27 = .ok (.iconst 0, 1) := by decide +kernel
theorem dX4_init_28 : decode cX4_init 28 = .ok (.putfield 25, 3) := by decide +kernel
theorem dX4_init_31 : decode cX4_init 31 = .ok (.aload_n 0, 1) := by decide +kernel
theorem dX4_init_32 : decode cX4_init 32 = .ok (.new 28, 3) := by decide +kernel
theorem dX4_init_35 : decode cX4_init 35 = .ok (.dup, 1) := by decide +kernel
theorem dX4_init_36 : decode cX4_init 36 = .ok (.invokespecial 30, 3) := by decide +kernel
theorem dX4_init_39 : decode cX4_init 39 = .ok (.putfield 31, 3) := by decide +kernel
theorem dX4_init_42 : decode cX4_init 42 = .ok (.aload_n 0, 1) := by decide +kernel
theorem dX4_init_43 : decode cX4_init 43 = .ok (.new 35, 3) := by decide +kernel
theorem dX4_init_46 : decode cX4_init 46 = .ok (.dup, 1) := by decide +kernel
theorem dX4_init_47 : decode cX4_init 47 = .ok (.invokespecial 37, 3) := by decide +kernel
theorem dX4_init_50 : decode cX4_init 50 = .ok (.putfield 38, 3) := by decide +kernel
theorem dX4_init_53 : decode cX4_init 53 = .ok (.return_, 1) := by decide +kernel
set_option maxRecDepth 20000 in
theorem ggX4_tape_X4_lowestFreeSlot : GoodIn wsX4_tape wsX4_lowestFreeSlot := goodIn_r _ [14, 15, 16, 17, 13, 18, 6, 33, 34, 35, 36, 37, 38, 39, 40, 41, 42, 43, 44, 45, 46] (by decide +kernel) (by decide +kernel)
set_option maxRecDepth 20000 in
theorem gX4_tape_X4_lowestFreeSlot : GoodIn wsX4_tape (wsV RX4 56 RX4 yX4_lowestFreeSlot wsX4_lowestFreeSlot) := goodIn_app (goodIn_of _ (by decide +kernel)) ggX4_tape_X4_lowestFreeSlot
set_option maxRecDepth 20000 in
theorem ggX4_tape_X3_init : GoodIn wsX4_tape wsX3_init := goodIn_r _ [20, 21, 22, 23, 24, 25, 26, 27, 28, 29, 30, 31, 32, 39, 40, 41, 42, 43, 44, 45, 46] (by decide +kernel) (by decide +kernel)
set_option maxRecDepth 20000 in
theorem gX4_tape_X3_init_n60 : GoodIn wsX4_tape (wsX3_init) := ggX4_tape_X3_init
theorem dX4_tape_0 : decode cX4_tape 0 = .ok (.iload_n 1, 1) := by decide +kernel
theorem dX4_tape_1 : decode cX4_tape 1 = .ok (.iconst 1, 1) := by decide +kernel
theorem dX4_tape_2 : decode cX4_tape 2 = .ok (.if_icmp .lt 9, 3) := by decide +kernel
theorem dX4_tape_5 : decode cX4_tape 5 = .ok (.iload_n 1, 1) := by decide +kernel
theorem dX4_tape_6 : decode cX4_tape 6 = .ok (.bipush 8, 2) := by decide +kernel
theorem dX4_tape_8 : decode cX4_tape 8 = .ok (.if_icmp .le 13, 3) := by decide +kernel
theorem dX4_tape_11 : decode cX4_tape 11 = .ok (.new 42, 3) := by decide +kernel
theorem dX4_tape_14 : decode cX4_tape 14 = .ok (.dup, 1) := by decide +kernel
theorem dX4_tape_15 : decode cX4_tape 15 = .ok (.ldc 44, 2) := by decide +kernel
theorem dX4_tape_17 : decode cX4_tape 17 = .ok (.invokespecial 46, 3) := by decide +kernel
theorem dX4_tape_20 : decode cX4_tape 20 = .ok (.athrow, 1) := by decide +kernel
theorem dX4_tape_21 : decode cX4_tape 21 = .ok (.iload_n 2, 1) := by decide +kernel
theorem dX4_tape_22 : decode cX4_tape 22 = .ok (.iconst 4, 1) := by decide +kernel
theorem dX4_tape_23 : decode cX4_tape 23 = .ok (.if_icmp .lt 10, 3) := by decide +kernel
theorem dX4_tape_26 : decode cX4_tape 26 = .ok (.iload_n 2, 1) := by decide +kernel
theorem dX4_tape_27 : decode cX4_tape 27 = .ok (.sipush 200, 3) := by decide +kernel
theorem dX4_tape_30 : decode cX4_tape 30 = .ok (.if_icmp .le 13, 3) := by decide +kernel
theorem dX4_tape_33 : decode cX4_tape 33 = .ok (.new 42, 3) := by decide +kernel
theorem dX4_tape_36 : decode cX4_tape 36 = .ok (.dup, 1) := by decide +kernel
theorem dX4_tape_37 : decode cX4_tape 37 = .ok (.ldc 49, 2) := by decide +kernel
theorem dX4_tape_39 : decode cX4_tape 39 = .ok (.invokespecial 46, 3) := by decide +kernel
theorem dX4_tape_42 : decode cX4_tape 42 = .ok (.athrow, 1) := by decide +kernel
theorem dX4_tape_43 : decode cX4_tape 43 = .ok (.aload_n 0, 1) := by decide +kernel
theorem dX4_tape_44 : decode cX4_tape 44 = .ok (.getfield 15, 3) := by decide +kernel
theorem dX4_tape_47 : decode cX4_tape 47 = .ok (.aload_n 0, 1) := by decide +kernel
theorem dX4_tape_48 : decode cX4_tape 48 = .ok (.getfield 11, 3) := by decide +kernel
theorem dX4_tape_51 : decode cX4_tape 51 = .ok (.arraylength, 1) := by decide +kernel
theorem dX4_tape_52 : decode cX4_tape 52 = .ok (.if_icmp .lt 13, 3) := by decide +kernel
theorem dX4_tape_55 : decode cX4_tape 55 = .ok (.new 51, 3) := by decide +kernel
theorem dX4_tape_58 : decode cX4_tape 58 = .ok (.dup, 1) := by decide +kernel
theorem dX4_tape_59 : decode cX4_tape 59 = .ok (.ldc 53, 2) := by decide +kernel
theorem dX4_tape_61 : decode cX4_tape 61 = .ok (.invokespecial 55, 3) := by decide +kernel
theorem dX4_tape_64 : decode cX4_tape 64 = .ok (.athrow, 1) := by decide +kernel
theorem dX4_tape_65 : decode cX4_tape 65 = .ok (.aload_n 0, 1) := by decide +kernel
theorem dX4_tape_66 : decode cX4_tape 66 = .ok (.getfield 11, 3) := by decide +kernel
theorem dX4_tape_69 : decode cX4_tape 69 = .ok (.aload_n 0, 1) := by decide +kernel
theorem dX4_tape_70 : decode cX4_tape 70 = .ok (.getfield 15, 3) := by decide +kernel
theorem dX4_tape_73 : decode cX4_tape 73 = .ok (.new 9, 3) := by decide +kernel
theorem dX4_tape_76 : decode cX4_tape 76 = .ok (.dup, 1) := by decide +kernel
theorem dX4_tape_77 : decode cX4_tape 77 = .ok (.aload_n 0, 1) := by decide +kernel
theorem dX4_tape_78 : decode cX4_tape 78 = .ok (.getfield 15, 3) := by decide +kernel
theorem dX4_tape_81 : decode cX4_tape 81 = .ok (.iload_n 1, 1) := by decide +kernel
theorem dX4_tape_82 : decode cX4_tape 82 = .ok (.iload_n 2, 1) := by decide +kernel
theorem dX4_tape_83 : decode cX4_tape 83 = .ok (.aload_n 0, 1) := by decide +kernel
theorem dX4_tape_84 : decode cX4_tape 84 = .ok (.invokevirtual 56, 3) := by decide +kernel
theorem dX4_tape_87 : decode cX4_tape 87 = .ok (.invokespecial 60, 3) := by decide +kernel
theorem dX4_tape_90 : decode cX4_tape 90 = .ok (.aastore, 1) := by decide +kernel
theorem dX4_tape_91 : decode cX4_tape 91 = .ok (.aload_n 0, 1) := by decide +kernel
theorem dX4_tape_92 : decode cX4_tape 92 = .ok (.dup, 1) := by decide +kernel
theorem dX4_tape_93 : decode cX4_tape 93 = .ok (.getfield 15, 3) := by decide +kernel
theorem dX4_tape_96 : decode cX4_tape 96 = .ok (.iconst 1, 1) := by decide +kernel
theorem dX4_tape_97 : decode cX4_tape 97 = .ok (.iadd, 1) := by decide +kernel
theorem dX4_tape_98 : decode cX4_tape 98 = .ok (.putfield 15, 3) := by decide +kernel
theorem dX4_tape_101 : decode cX4_tape 101 = .ok (.aload_n 0, 1) := by decide +kernel
theorem dX4_tape_102 : decode cX4_tape 102 = .ok (.getfield 15, 3) := by decide +kernel
theorem dX4_tape_105 : decode cX4_tape 105 = .ok (.iconst 1, 1) := by decide +kernel
theorem dX4_tape_106 : decode cX4_tape 106 = .ok (.isub, 1) := by decide +kernel
theorem dX4_tape_107 : decode cX4_tape 107 = .ok (.ireturn, 1) := by decide +kernel
set_option maxRecDepth 20000 in
theorem ggX4_carry_X4_tapeNumbered : GoodIn wsX4_carry wsX4_tapeNumbered := goodIn_ca (goodIn_r _ [9, 1, 2, 10, 28, 29, 30, 31, 32, 33] (by decide +kernel) (by decide +kernel)) (goodIn_sub (fun _ h => List.mem_cons_of_mem _ (List.mem_append_left _ (List.mem_append_right _ h))) (by decide +kernel))
set_option maxRecDepth 20000 in
theorem gX4_carry_X4_tapeNumbered : GoodIn wsX4_carry (wsV RX4 63 RX4 yX4_tapeNumbered wsX4_tapeNumbered) := goodIn_app (goodIn_of _ (by decide +kernel)) ggX4_carry_X4_tapeNumbered
set_option maxRecDepth 20000 in
theorem ggX4_carry_X3_isInDrive : GoodIn wsX4_carry wsX3_isInDrive := goodIn_r _ [14, 15, 20, 21, 22, 23, 24, 25, 26, 27] (by decide +kernel) (by decide +kernel)
set_option maxRecDepth 20000 in
theorem gX4_carry_X3_isInDrive_n72 : GoodIn wsX4_carry (wsX3_isInDrive) := ggX4_carry_X3_isInDrive
set_option maxRecDepth 20000 in
theorem ggX4_carry_X4_isFree : GoodIn wsX4_carry wsX4_isFree := goodIn_r _ [19, 10, 28, 29, 30, 31, 32, 33, 20, 21, 22, 23, 24, 25, 26, 27] (by decide +kernel) (by decide +kernel)
set_option maxRecDepth 20000 in
theorem gX4_carry_X4_isFree : GoodIn wsX4_carry (wsV RX4 76 RX4 yX4_isFree wsX4_isFree) := goodIn_app (goodIn_of _ (by decide +kernel)) ggX4_carry_X4_isFree
theorem dX4_carry_0 : decode cX4_carry 0 = .ok (.aload_n 0, 1) := by decide +kernel
theorem dX4_carry_1 : decode cX4_carry 1 = .ok (.iload_n 1, 1) := by decide +kernel
theorem dX4_carry_2 : decode cX4_carry 2 = .ok (.invokevirtual 63, 3) := by decide +kernel
theorem dX4_carry_5 : decode cX4_carry 5 = .ok (.astore_n 3, 1) := by decide +kernel
theorem dX4_carry_6 : decode cX4_carry 6 = .ok (.iload_n 2, 1) := by decide +kernel
theorem dX4_carry_7 : decode cX4_carry 7 = .ok (.ifCond .lt 9, 3) := by decide +kernel
theorem dX4_carry_10 : decode cX4_carry 10 = .ok (.iload_n 2, 1) := by decide +kernel
theorem dX4_carry_11 : decode cX4_carry 11 = .ok (.bipush 12, 2) := by decide +kernel
theorem dX4_carry_13 : decode cX4_carry 13 = .ok (.if_icmp .lt 13, 3) := by decide +kernel
theorem dX4_carry_16 : decode cX4_carry 16 = .ok (.new 67, 3) := by decide +kernel
theorem dX4_carry_19 : decode cX4_carry 19 = .ok (.dup, 1) := by decide +kernel
theorem dX4_carry_20 : decode cX4_carry 20 = .ok (.ldc 69, 2) := by decide +kernel
theorem dX4_carry_22 : decode cX4_carry 22 = .ok (.invokespecial 71, 3) := by decide +kernel
theorem dX4_carry_25 : decode cX4_carry 25 = .ok (.athrow, 1) := by decide +kernel
theorem dX4_carry_26 : decode cX4_carry 26 = .ok (.aload_n 3, 1) := by decide +kernel
theorem dX4_carry_27 : decode cX4_carry 27 = .ok (.invokevirtual 72, 3) := by decide +kernel
theorem dX4_carry_30 : decode cX4_carry 30 = .ok (.ifCond .ne 11, 3) := by decide +kernel
theorem dX4_carry_33 : decode cX4_carry 33 = .ok (.aload_n 0, 1) := by decide +kernel
theorem dX4_carry_34 : decode cX4_carry 34 = .ok (.iload_n 2, 1) := by decide +kernel
theorem dX4_carry_35 : decode cX4_carry 35 = .ok (.invokevirtual 76, 3) := by decide +kernel
theorem dX4_carry_38 : decode cX4_carry 38 = .ok (.ifCond .ne 13, 3) := by decide +kernel
theorem dX4_carry_41 : decode cX4_carry 41 = .ok (.new 51, 3) := by decide +kernel
theorem dX4_carry_44 : decode cX4_carry 44 = .ok (.dup, 1) := by decide +kernel
theorem dX4_carry_45 : decode cX4_carry 45 = .ok (.ldc 80, 2) := by decide +kernel
theorem dX4_carry_47 : decode cX4_carry 47 = .ok (.invokespecial 55, 3) := by decide +kernel
theorem dX4_carry_50 : decode cX4_carry 50 = .ok (.athrow, 1) := by decide +kernel
theorem dX4_carry_51 : decode cX4_carry 51 = .ok (.aload_n 3, 1) := by decide +kernel
theorem dX4_carry_52 : decode cX4_carry 52 = .ok (.getfield 82, 3) := by decide +kernel
theorem dX4_carry_55 : decode cX4_carry 55 = .ok (.istore 4, 2) := by decide +kernel
theorem dX4_carry_57 : decode cX4_carry 57 = .ok (.aload_n 3, 1) := by decide +kernel
theorem dX4_carry_58 : decode cX4_carry 58 = .ok (.iload_n 2, 1) := by decide +kernel
theorem dX4_carry_59 : decode cX4_carry 59 = .ok (.putfield 82, 3) := by decide +kernel
theorem dX4_carry_62 : decode cX4_carry 62 = .ok (.iload 4, 2) := by decide +kernel
theorem dX4_carry_64 : decode cX4_carry 64 = .ok (.ireturn, 1) := by decide +kernel
set_option maxRecDepth 20000 in
theorem ggX4_placeOf_X4_tapeNumbered : GoodIn wsX4_placeOf wsX4_tapeNumbered := goodIn_ca (goodIn_r _ [5, 6, 7, 8, 22, 23, 24, 25, 26, 27] (by decide +kernel) (by decide +kernel)) (goodIn_sub (fun _ h => List.mem_cons_of_mem _ (List.mem_append_right _ h)) (by decide +kernel))
set_option maxRecDepth 20000 in
theorem gX4_placeOf_X4_tapeNumbered : GoodIn wsX4_placeOf (wsV RX4 63 RX4 yX4_tapeNumbered wsX4_tapeNumbered) := goodIn_app (goodIn_of _ (by decide +kernel)) ggX4_placeOf_X4_tapeNumbered
set_option maxRecDepth 20000 in
theorem ggX4_placeOf_X3_isInDrive : GoodIn wsX4_placeOf wsX3_isInDrive := goodIn_r _ [12, 13, 14, 15, 16, 17, 18, 19, 20, 21] (by decide +kernel) (by decide +kernel)
set_option maxRecDepth 20000 in
theorem gX4_placeOf_X3_isInDrive_n72 : GoodIn wsX4_placeOf (wsX3_isInDrive) := ggX4_placeOf_X3_isInDrive
theorem dX4_placeOf_0 : decode cX4_placeOf 0 = .ok (.aload_n 0, 1) := by decide +kernel
theorem dX4_placeOf_1 : decode cX4_placeOf 1 = .ok (.iload_n 1, 1) := by decide +kernel
theorem dX4_placeOf_2 : decode cX4_placeOf 2 = .ok (.invokevirtual 63, 3) := by decide +kernel
theorem dX4_placeOf_5 : decode cX4_placeOf 5 = .ok (.astore_n 2, 1) := by decide +kernel
theorem dX4_placeOf_6 : decode cX4_placeOf 6 = .ok (.aload_n 2, 1) := by decide +kernel
theorem dX4_placeOf_7 : decode cX4_placeOf 7 = .ok (.invokevirtual 72, 3) := by decide +kernel
theorem dX4_placeOf_10 : decode cX4_placeOf 10 = .ok (.ifCond .eq 12, 3) := by decide +kernel
theorem dX4_placeOf_13 : decode cX4_placeOf 13 = .ok (.iconst (-1), 1) := by decide +kernel
theorem dX4_placeOf_14 : decode cX4_placeOf 14 = .ok (.aload_n 2, 1) := by decide +kernel
theorem dX4_placeOf_15 : decode cX4_placeOf 15 = .ok (.getfield 85, 3) := by decide +kernel
theorem dX4_placeOf_18 : decode cX4_placeOf 18 = .ok (.isub, 1) := by decide +kernel
theorem dX4_placeOf_19 : decode cX4_placeOf 19 = .ok (.goto 7, 3) := by decide +kernel
theorem dX4_placeOf_22 : decode cX4_placeOf 22 = .ok (.aload_n 2, 1) := by decide +kernel
theorem dX4_placeOf_23 : decode cX4_placeOf 23 = .ok (.getfield 82, 3) := by decide +kernel
theorem dX4_placeOf_26 : decode cX4_placeOf 26 = .ok (.ireturn, 1) := by decide +kernel
set_option maxRecDepth 20000 in
theorem ggX4_files_X4_tapeNumbered : GoodIn wsX4_files wsX4_tapeNumbered := goodIn_ca (goodIn_r _ [5, 6, 7, 8, 17, 18, 19, 20, 21, 22] (by decide +kernel) (by decide +kernel)) (goodIn_sub (fun _ h => List.mem_cons_of_mem _ (List.mem_append_right _ h)) (by decide +kernel))
set_option maxRecDepth 20000 in
theorem gX4_files_X4_tapeNumbered : GoodIn wsX4_files (wsV RX4 63 RX4 yX4_tapeNumbered wsX4_tapeNumbered) := goodIn_app (goodIn_of _ (by decide +kernel)) ggX4_files_X4_tapeNumbered
theorem dX4_files_0 : decode cX4_files 0 = .ok (.aload_n 0, 1) := by decide +kernel
theorem dX4_files_1 : decode cX4_files 1 = .ok (.iload_n 1, 1) := by decide +kernel
theorem dX4_files_2 : decode cX4_files 2 = .ok (.invokevirtual 63, 3) := by decide +kernel
theorem dX4_files_5 : decode cX4_files 5 = .ok (.getfield 88, 3) := by decide +kernel
theorem dX4_files_8 : decode cX4_files 8 = .ok (.ireturn, 1) := by decide +kernel
set_option maxRecDepth 20000 in
theorem ggX4_start_X4_tapeNumbered : GoodIn wsX4_start wsX4_tapeNumbered := goodIn_ca (goodIn_r _ [5, 6, 7, 8, 19, 20, 21, 22, 23, 24] (by decide +kernel) (by decide +kernel)) (goodIn_sub (fun _ h => List.mem_cons_of_mem _ (List.mem_append_right _ h)) (by decide +kernel))
set_option maxRecDepth 20000 in
theorem gX4_start_X4_tapeNumbered : GoodIn wsX4_start (wsV RX4 63 RX4 yX4_tapeNumbered wsX4_tapeNumbered) := goodIn_app (goodIn_of _ (by decide +kernel)) ggX4_start_X4_tapeNumbered
set_option maxRecDepth 20000 in
theorem ggX4_start_X4_refuseMissingFile : GoodIn wsX4_start wsX4_refuseMissingFile := goodIn_ca (goodIn_r _ [11, 6, 7, 25, 26, 27, 28, 29, 30, 31, 32] (by decide +kernel) (by decide +kernel)) (goodIn_sub (fun _ h => List.mem_cons_of_mem _ (List.mem_append_right _ h)) (by decide +kernel))
set_option maxRecDepth 20000 in
theorem gX4_start_X4_refuseMissingFile : GoodIn wsX4_start (va_wsS RX4 91 yX4_refuseMissingFile wsX4_refuseMissingFile) := goodIn_app (goodIn_of _ (by decide +kernel)) ggX4_start_X4_refuseMissingFile
set_option maxRecDepth 20000 in
theorem ggX4_start_X3_beginOf : GoodIn wsX4_start wsX3_beginOf := goodIn_r _ [15, 16, 17, 4, 18, 25, 26, 27, 28, 29, 30, 31, 32] (by decide +kernel) (by decide +kernel)
set_option maxRecDepth 20000 in
theorem gX4_start_X3_beginOf_n95 : GoodIn wsX4_start (wsX3_beginOf) := ggX4_start_X3_beginOf
theorem dX4_start_0 : decode cX4_start 0 = .ok (.aload_n 0, 1) := by decide +kernel
theorem dX4_start_1 : decode cX4_start 1 = .ok (.iload_n 1, 1) := by decide +kernel
theorem dX4_start_2 : decode cX4_start 2 = .ok (.invokevirtual 63, 3) := by decide +kernel
theorem dX4_start_5 : decode cX4_start 5 = .ok (.astore_n 3, 1) := by decide +kernel
theorem dX4_start_6 : decode cX4_start 6 = .ok (.aload_n 3, 1) := by decide +kernel
theorem dX4_start_7 : decode cX4_start 7 = .ok (.iload_n 2, 1) := by decide +kernel
theorem dX4_start_8 : decode cX4_start 8 = .ok (.invokestatic 91, 3) := by decide +kernel
theorem dX4_start_11 : decode cX4_start 11 = .ok (.aload_n 3, 1) := by decide +kernel
theorem dX4_start_12 : decode cX4_start 12 = .ok (.iload_n 2, 1) := by decide +kernel
theorem dX4_start_13 : decode cX4_start 13 = .ok (.invokevirtual 95, 3) := by decide +kernel
theorem dX4_start_16 : decode cX4_start 16 = .ok (.ireturn, 1) := by decide +kernel
set_option maxRecDepth 20000 in
theorem ggX4_along_X4_tapeNumbered : GoodIn wsX4_along wsX4_tapeNumbered := goodIn_ca (goodIn_r _ [7, 1, 2, 8, 26, 27, 28, 29, 30, 31] (by decide +kernel) (by decide +kernel)) (goodIn_sub (fun _ h => List.mem_cons_of_mem _ (List.mem_append_right _ h)) (by decide +kernel))
set_option maxRecDepth 20000 in
theorem gX4_along_X4_tapeNumbered : GoodIn wsX4_along (wsV RX4 63 RX4 yX4_tapeNumbered wsX4_tapeNumbered) := goodIn_app (goodIn_of _ (by decide +kernel)) ggX4_along_X4_tapeNumbered
set_option maxRecDepth 20000 in
theorem ggX4_along_X3_places : GoodIn wsX4_along wsX3_places := goodIn_r _ [12, 13, 14, 32, 33, 34, 35, 36, 37, 38, 39] (by decide +kernel) (by decide +kernel)
set_option maxRecDepth 20000 in
theorem gX4_along_X3_places_n99 : GoodIn wsX4_along (wsX3_places) := ggX4_along_X3_places
set_option maxRecDepth 20000 in
theorem ggX4_along_X3_distanceAlong : GoodIn wsX4_along wsX3_distanceAlong := goodIn_r _ [17, 14, 18, 19, 20, 21, 22, 23, 24, 10, 25, 13, 32, 33, 34, 35, 36, 37, 38, 39] (by decide +kernel) (by decide +kernel)
set_option maxRecDepth 20000 in
theorem gX4_along_X3_distanceAlong_n104 : GoodIn wsX4_along (wsX3_distanceAlong) := ggX4_along_X3_distanceAlong
theorem dX4_along_0 : decode cX4_along 0 = .ok (.aload_n 0, 1) := by decide +kernel
theorem dX4_along_1 : decode cX4_along 1 = .ok (.iload_n 1, 1) := by decide +kernel
theorem dX4_along_2 : decode cX4_along 2 = .ok (.invokevirtual 63, 3) := by decide +kernel
theorem dX4_along_5 : decode cX4_along 5 = .ok (.astore_n 3, 1) := by decide +kernel
theorem dX4_along_6 : decode cX4_along 6 = .ok (.iload_n 2, 1) := by decide +kernel
theorem dX4_along_7 : decode cX4_along 7 = .ok (.ifCond .lt 11, 3) := by decide +kernel
theorem dX4_along_10 : decode cX4_along 10 = .ok (.iload_n 2, 1) := by decide +kernel
theorem dX4_along_11 : decode cX4_along 11 = .ok (.aload_n 3, 1) := by decide +kernel
theorem dX4_along_12 : decode cX4_along 12 = .ok (.invokevirtual 99, 3) := by decide +kernel
theorem dX4_along_15 : decode cX4_along 15 = .ok (.if_icmp .lt 13, 3) := by decide +kernel
theorem dX4_along_18 : decode cX4_along 18 = .ok (.new 67, 3) := by decide +kernel
theorem dX4_along_21 : decode cX4_along 21 = .ok (.dup, 1) := by decide +kernel
theorem dX4_along_22 : decode cX4_along 22 = .ok (.ldc 102, 2) := by decide +kernel
theorem dX4_along_24 : decode cX4_along 24 = .ok (.invokespecial 71, 3) := by decide +kernel
theorem dX4_along_27 : decode cX4_along 27 = .ok (.athrow, 1) := by decide +kernel
theorem dX4_along_28 : decode cX4_along 28 = .ok (.aload_n 3, 1) := by decide +kernel
theorem dX4_along_29 : decode cX4_along 29 = .ok (.iload_n 2, 1) := by decide +kernel
theorem dX4_along_30 : decode cX4_along 30 = .ok (.invokevirtual 104, 3) := by decide +kernel
theorem dX4_along_33 : decode cX4_along 33 = .ok (.ireturn, 1) := by decide +kernel
set_option maxRecDepth 20000 in
theorem ggX4_drive_X0_init : GoodIn wsX4_drive wsX0_init := goodIn_r _ [11, 12, 13, 14, 15, 16, 17, 18, 19, 20, 21, 28, 29, 30, 31, 32, 33, 34] (by decide +kernel) (by decide +kernel)
set_option maxRecDepth 20000 in
theorem gX4_drive_X0_init_n111 : GoodIn wsX4_drive (wsX0_init) := ggX4_drive_X0_init
theorem dX4_drive_0 : decode cX4_drive 0 = .ok (.iload_n 1, 1) := by decide +kernel
theorem dX4_drive_1 : decode cX4_drive 1 = .ok (.ifCond .eq 18, 3) := by decide +kernel
theorem dX4_drive_4 : decode cX4_drive 4 = .ok (.iload_n 1, 1) := by decide +kernel
theorem dX4_drive_5 : decode cX4_drive 5 = .ok (.iconst 1, 1) := by decide +kernel
theorem dX4_drive_6 : decode cX4_drive 6 = .ok (.if_icmp .eq 13, 3) := by decide +kernel
theorem dX4_drive_9 : decode cX4_drive 9 = .ok (.new 42, 3) := by decide +kernel
theorem dX4_drive_12 : decode cX4_drive 12 = .ok (.dup, 1) := by decide +kernel
theorem dX4_drive_13 : decode cX4_drive 13 = .ok (.ldc 107, 2) := by decide +kernel
theorem dX4_drive_15 : decode cX4_drive 15 = .ok (.invokespecial 46, 3) := by decide +kernel
theorem dX4_drive_18 : decode cX4_drive 18 = .ok (.athrow, 1) := by decide +kernel
theorem dX4_drive_19 : decode cX4_drive 19 = .ok (.aload_n 0, 1) := by decide +kernel
theorem dX4_drive_20 : decode cX4_drive 20 = .ok (.getfield 25, 3) := by decide +kernel
theorem dX4_drive_23 : decode cX4_drive 23 = .ok (.aload_n 0, 1) := by decide +kernel
theorem dX4_drive_24 : decode cX4_drive 24 = .ok (.getfield 21, 3) := by decide +kernel
theorem dX4_drive_27 : decode cX4_drive 27 = .ok (.arraylength, 1) := by decide +kernel
theorem dX4_drive_28 : decode cX4_drive 28 = .ok (.if_icmp .lt 13, 3) := by decide +kernel
theorem dX4_drive_31 : decode cX4_drive 31 = .ok (.new 51, 3) := by decide +kernel
theorem dX4_drive_34 : decode cX4_drive 34 = .ok (.dup, 1) := by decide +kernel
theorem dX4_drive_35 : decode cX4_drive 35 = .ok (.ldc 109, 2) := by decide +kernel
theorem dX4_drive_37 : decode cX4_drive 37 = .ok (.invokespecial 55, 3) := by decide +kernel
theorem dX4_drive_40 : decode cX4_drive 40 = .ok (.athrow, 1) := by decide +kernel
theorem dX4_drive_41 : decode cX4_drive 41 = .ok (.aload_n 0, 1) := by decide +kernel
theorem dX4_drive_42 : decode cX4_drive 42 = .ok (.getfield 21, 3) := by decide +kernel
theorem dX4_drive_45 : decode cX4_drive 45 = .ok (.aload_n 0, 1) := by decide +kernel
theorem dX4_drive_46 : decode cX4_drive 46 = .ok (.getfield 25, 3) := by decide +kernel
theorem dX4_drive_49 : decode cX4_drive 49 = .ok (.iload_n 1, 1) := by decide +kernel
theorem dX4_drive_50 : decode cX4_drive 50 = .ok (.ifCond .ne 20, 3) := by decide +kernel
theorem dX4_drive_53 : decode cX4_drive 53 = .ok (.new 19, 3) := by decide +kernel
theorem dX4_drive_56 : decode cX4_drive 56 = .ok (.dup, 1) := by decide +kernel
theorem dX4_drive_57 : decode cX4_drive 57 = .ok (.aload_n 0, 1) := by decide +kernel
theorem dX4_drive_58 : decode cX4_drive 58 = .ok (.getfield 25, 3) := by decide +kernel
theorem dX4_drive_61 : decode cX4_drive 61 = .ok (.iconst 1, 1) := by decide +kernel
theorem dX4_drive_62 : decode cX4_drive 62 = .ok (.bipush 9, 2) := by decide +kernel
theorem dX4_drive_64 : decode cX4_drive 64 = .ok (.invokespecial 111, 3) := by decide +kernel
theorem dX4_drive_67 : decode cX4_drive 67 = .ok (.goto 16, 3) := by decide +kernel
theorem dX4_drive_70 : decode cX4_drive 70 = .ok (.new 19, 3) := by decide +kernel
theorem dX4_drive_73 : decode cX4_drive 73 = .ok (.dup, 1) := by decide +kernel
theorem dX4_drive_74 : decode cX4_drive 74 = .ok (.aload_n 0, 1) := by decide +kernel
theorem dX4_drive_75 : decode cX4_drive 75 = .ok (.getfield 25, 3) := by decide +kernel
theorem dX4_drive_78 : decode cX4_drive 78 = .ok (.iconst 2, 1) := by decide +kernel
theorem dX4_drive_79 : decode cX4_drive 79 = .ok (.iconst 1, 1) := by decide +kernel
theorem dX4_drive_80 : decode cX4_drive 80 = .ok (.invokespecial 111, 3) := by decide +kernel
theorem dX4_drive_83 : decode cX4_drive 83 = .ok (.aastore, 1) := by decide +kernel
theorem dX4_drive_84 : decode cX4_drive 84 = .ok (.aload_n 0, 1) := by decide +kernel
theorem dX4_drive_85 : decode cX4_drive 85 = .ok (.dup, 1) := by decide +kernel
theorem dX4_drive_86 : decode cX4_drive 86 = .ok (.getfield 25, 3) := by decide +kernel
theorem dX4_drive_89 : decode cX4_drive 89 = .ok (.iconst 1, 1) := by decide +kernel
theorem dX4_drive_90 : decode cX4_drive 90 = .ok (.iadd, 1) := by decide +kernel
theorem dX4_drive_91 : decode cX4_drive 91 = .ok (.putfield 25, 3) := by decide +kernel
theorem dX4_drive_94 : decode cX4_drive 94 = .ok (.aload_n 0, 1) := by decide +kernel
theorem dX4_drive_95 : decode cX4_drive 95 = .ok (.getfield 25, 3) := by decide +kernel
theorem dX4_drive_98 : decode cX4_drive 98 = .ok (.iconst 1, 1) := by decide +kernel
theorem dX4_drive_99 : decode cX4_drive 99 = .ok (.isub, 1) := by decide +kernel
theorem dX4_drive_100 : decode cX4_drive 100 = .ok (.ireturn, 1) := by decide +kernel
set_option maxRecDepth 20000 in
theorem ggX4_mount_X4_driveNumbered : GoodIn wsX4_mount wsX4_driveNumbered := goodIn_ca (goodIn_r _ [7, 8, 9, 10, 49, 50, 51, 52, 53, 54] (by decide +kernel) (by decide +kernel)) (goodIn_sub (fun _ h => List.mem_cons_of_mem _ (List.mem_append_right _ h)) (by decide +kernel))
set_option maxRecDepth 20000 in
theorem gX4_mount_X4_driveNumbered : GoodIn wsX4_mount (wsV RX4 114 RX4 yX4_driveNumbered wsX4_driveNumbered) := goodIn_app (goodIn_of _ (by decide +kernel)) ggX4_mount_X4_driveNumbered
set_option maxRecDepth 20000 in
theorem ggX4_mount_X4_tapeNumbered : GoodIn wsX4_mount wsX4_tapeNumbered := goodIn_ca (goodIn_r _ [14, 8, 9, 15, 49, 50, 51, 52, 53, 54] (by decide +kernel) (by decide +kernel)) (goodIn_sub (fun _ h => List.mem_cons_of_mem _ (List.mem_append_right _ h)) (by decide +kernel))
set_option maxRecDepth 20000 in
theorem gX4_mount_X4_tapeNumbered : GoodIn wsX4_mount (wsV RX4 63 RX4 yX4_tapeNumbered wsX4_tapeNumbered) := goodIn_app (goodIn_of _ (by decide +kernel)) ggX4_mount_X4_tapeNumbered
set_option maxRecDepth 20000 in
theorem ggX4_mount_X3_isInDrive : GoodIn wsX4_mount wsX3_isInDrive := goodIn_r _ [19, 20, 41, 42, 43, 44, 45, 46, 47, 48] (by decide +kernel) (by decide +kernel)
set_option maxRecDepth 20000 in
theorem gX4_mount_X3_isInDrive_n72 : GoodIn wsX4_mount (wsX3_isInDrive) := ggX4_mount_X3_isInDrive
set_option maxRecDepth 20000 in
theorem ggX4_mount_X0_robotTime : GoodIn wsX4_mount wsX0_robotTime := goodIn_r _ [24, 25, 26, 27, 28, 29, 34, 35, 36, 37, 38, 39, 40] (by decide +kernel) (by decide +kernel)
set_option maxRecDepth 20000 in
theorem gX4_mount_X0_robotTime_n134 : GoodIn wsX4_mount (wsX0_robotTime) := ggX4_mount_X0_robotTime
set_option maxRecDepth 20000 in
theorem ggX4_mount_X0_spend : GoodIn wsX4_mount wsX0_spend := goodIn_r _ [32, 33, 34, 35, 36, 37, 38, 39, 40] (by decide +kernel) (by decide +kernel)
set_option maxRecDepth 20000 in
theorem gX4_mount_X0_spend_n137 : GoodIn wsX4_mount (wsX0_spend) := ggX4_mount_X0_spend
theorem dX4_mount_0 : decode cX4_mount 0 = .ok (.aload_n 0, 1) := by decide +kernel
theorem dX4_mount_1 : decode cX4_mount 1 = .ok (.iload_n 1, 1) := by decide +kernel
theorem dX4_mount_2 : decode cX4_mount 2 = .ok (.invokevirtual 114, 3) := by decide +kernel
theorem dX4_mount_5 : decode cX4_mount 5 = .ok (.astore_n 3, 1) := by decide +kernel
theorem dX4_mount_6 : decode cX4_mount 6 = .ok (.aload_n 0, 1) := by decide +kernel
theorem dX4_mount_7 : decode cX4_mount 7 = .ok (.iload_n 2, 1) := by decide +kernel
theorem dX4_mount_8 : decode cX4_mount 8 = .ok (.invokevirtual 63, 3) := by decide +kernel
theorem dX4_mount_11 : decode cX4_mount 11 = .ok (.astore 4, 2) := by decide +kernel
theorem dX4_mount_13 : decode cX4_mount 13 = .ok (.aload_n 3, 1) := by decide +kernel
theorem dX4_mount_14 : decode cX4_mount 14 = .ok (.getfield 118, 3) := by decide +kernel
theorem dX4_mount_17 : decode cX4_mount 17 = .ok (.ifnonnull 19, 3) := by decide +kernel
theorem dX4_mount_20 : decode cX4_mount 20 = .ok (.aload 4, 2) := by decide +kernel
theorem dX4_mount_22 : decode cX4_mount 22 = .ok (.invokevirtual 72, 3) := by decide +kernel
theorem dX4_mount_25 : decode cX4_mount 25 = .ok (.ifCond .ne 11, 3) := by decide +kernel
theorem dX4_mount_28 : decode cX4_mount 28 = .ok (.aload 4, 2) := by decide +kernel
theorem dX4_mount_30 : decode cX4_mount 30 = .ok (.getfield 122, 3) := by decide +kernel
theorem dX4_mount_33 : decode cX4_mount 33 = .ok (.ifCond .ne 13, 3) := by decide +kernel
theorem dX4_mount_36 : decode cX4_mount 36 = .ok (.new 51, 3) := by decide +kernel
theorem dX4_mount_39 : decode cX4_mount 39 = .ok (.dup, 1) := by decide +kernel
theorem dX4_mount_40 : decode cX4_mount 40 = .ok (.ldc 126, 2) := by decide +kernel
theorem dX4_mount_42 : decode cX4_mount 42 = .ok (.invokespecial 55, 3) := by decide +kernel
theorem dX4_mount_45 : decode cX4_mount 45 = .ok (.athrow, 1) := by decide +kernel
theorem dX4_mount_46 : decode cX4_mount 46 = .ok (.aload_n 3, 1) := by decide +kernel
theorem dX4_mount_47 : decode cX4_mount 47 = .ok (.aload 4, 2) := by decide +kernel
theorem dX4_mount_49 : decode cX4_mount 49 = .ok (.putfield 118, 3) := by decide +kernel
theorem dX4_mount_52 : decode cX4_mount 52 = .ok (.aload_n 3, 1) := by decide +kernel
theorem dX4_mount_53 : decode cX4_mount 53 = .ok (.iconst 0, 1) := by decide +kernel
theorem dX4_mount_54 : decode cX4_mount 54 = .ok (.putfield 128, 3) := by decide +kernel
theorem dX4_mount_57 : decode cX4_mount 57 = .ok (.aload 4, 2) := by decide +kernel
theorem dX4_mount_59 : decode cX4_mount 59 = .ok (.aload_n 3, 1) := by decide +kernel
theorem dX4_mount_60 : decode cX4_mount 60 = .ok (.getfield 131, 3) := by decide +kernel
theorem dX4_mount_63 : decode cX4_mount 63 = .ok (.putfield 85, 3) := by decide +kernel
theorem dX4_mount_66 : decode cX4_mount 66 = .ok (.aload_n 3, 1) := by decide +kernel
theorem dX4_mount_67 : decode cX4_mount 67 = .ok (.aload_n 3, 1) := by decide +kernel
theorem dX4_mount_68 : decode cX4_mount 68 = .ok (.aload 4, 2) := by decide +kernel
theorem dX4_mount_70 : decode cX4_mount 70 = .ok (.getfield 82, 3) := by decide +kernel
theorem dX4_mount_73 : decode cX4_mount 73 = .ok (.invokevirtual 134, 3) := by decide +kernel
theorem dX4_mount_76 : decode cX4_mount 76 = .ok (.invokevirtual 137, 3) := by decide +kernel
theorem dX4_mount_79 : decode cX4_mount 79 = .ok (.ireturn, 1) := by decide +kernel
set_option maxRecDepth 20000 in
theorem ggX4_unmount_X4_driveNumbered : GoodIn wsX4_unmount wsX4_driveNumbered := goodIn_ca (goodIn_r _ [5, 6, 7, 8, 60, 61, 62, 63, 64, 65] (by decide +kernel) (by decide +kernel)) (goodIn_sub (fun _ h => List.mem_cons_of_mem _ (List.mem_append_left _ (List.mem_append_right _ h))) (by decide +kernel))
set_option maxRecDepth 20000 in
theorem gX4_unmount_X4_driveNumbered : GoodIn wsX4_unmount (wsV RX4 114 RX4 yX4_driveNumbered wsX4_driveNumbered) := goodIn_app (goodIn_of _ (by decide +kernel)) ggX4_unmount_X4_driveNumbered
set_option maxRecDepth 20000 in
theorem ggX4_unmount_X4_mountedIn : GoodIn wsX4_unmount wsX4_mountedIn := goodIn_ca (goodIn_r _ [11, 12, 13, 45, 46, 47, 48, 49, 50, 51] (by decide +kernel) (by decide +kernel)) (goodIn_sub (fun _ h => List.mem_cons_of_mem _ (List.mem_append_right _ h)) (by decide +kernel))
set_option maxRecDepth 20000 in
theorem gX4_unmount_X4_mountedIn : GoodIn wsX4_unmount (va_wsS RX4 140 yX4_mountedIn wsX4_mountedIn) := goodIn_app (goodIn_of _ (by decide +kernel)) ggX4_unmount_X4_mountedIn
set_option maxRecDepth 20000 in
theorem ggX4_unmount_X0_wayTime : GoodIn wsX4_unmount wsX0_wayTime := goodIn_r _ [17, 18, 19, 20, 21, 22, 23, 24, 25, 26, 27, 28, 29, 30, 31, 32, 33, 34, 35, 36, 45, 46, 47, 48, 49, 50, 51, 52, 53, 54, 55, 56, 57, 58, 59] (by decide +kernel) (by decide +kernel)
set_option maxRecDepth 20000 in
theorem gX4_unmount_X0_wayTime_n144 : GoodIn wsX4_unmount (wsX0_wayTime) := ggX4_unmount_X0_wayTime
set_option maxRecDepth 20000 in
theorem ggX4_unmount_X0_robotTime : GoodIn wsX4_unmount wsX0_robotTime := goodIn_r _ [39, 40, 18, 19, 20, 21, 45, 46, 47, 48, 49, 50, 51] (by decide +kernel) (by decide +kernel)
set_option maxRecDepth 20000 in
theorem gX4_unmount_X0_robotTime_n134 : GoodIn wsX4_unmount (wsX0_robotTime) := ggX4_unmount_X0_robotTime
set_option maxRecDepth 20000 in
theorem ggX4_unmount_X0_spend : GoodIn wsX4_unmount wsX0_spend := goodIn_r _ [43, 44, 45, 46, 47, 48, 49, 50, 51] (by decide +kernel) (by decide +kernel)
set_option maxRecDepth 20000 in
theorem gX4_unmount_X0_spend_n137 : GoodIn wsX4_unmount (wsX0_spend) := ggX4_unmount_X0_spend
theorem dX4_unmount_0 : decode cX4_unmount 0 = .ok (.aload_n 0, 1) := by decide +kernel
theorem dX4_unmount_1 : decode cX4_unmount 1 = .ok (.iload_n 1, 1) := by decide +kernel
theorem dX4_unmount_2 : decode cX4_unmount 2 = .ok (.invokevirtual 114, 3) := by decide +kernel
theorem dX4_unmount_5 : decode cX4_unmount 5 = .ok (.astore_n 2, 1) := by decide +kernel
theorem dX4_unmount_6 : decode cX4_unmount 6 = .ok (.aload_n 2, 1) := by decide +kernel
theorem dX4_unmount_7 : decode cX4_unmount 7 = .ok (.invokestatic 140, 3) := by decide +kernel
theorem dX4_unmount_10 : decode cX4_unmount 10 = .ok (.astore_n 3, 1) := by decide +kernel
theorem dX4_unmount_11 : decode cX4_unmount 11 = .ok (.aload_n 2, 1) := by decide +kernel
theorem dX4_unmount_12 : decode cX4_unmount 12 = .ok (.aload_n 3, 1) := by decide +kernel
theorem dX4_unmount_13 : decode cX4_unmount 13 = .ok (.aload_n 2, 1) := by decide +kernel
theorem dX4_unmount_14 : decode cX4_unmount 14 = .ok (.getfield 128, 3) := by decide +kernel
theorem dX4_unmount_17 : decode cX4_unmount 17 = .ok (.iconst 0, 1) := by decide +kernel
theorem dX4_unmount_18 : decode cX4_unmount 18 = .ok (.invokevirtual 144, 3) := by decide +kernel
theorem dX4_unmount_21 : decode cX4_unmount 21 = .ok (.istore 4, 2) := by decide +kernel
theorem dX4_unmount_23 : decode cX4_unmount 23 = .ok (.aload_n 2, 1) := by decide +kernel
theorem dX4_unmount_24 : decode cX4_unmount 24 = .ok (.aconst_null, 1) := by decide +kernel
theorem dX4_unmount_25 : decode cX4_unmount 25 = .ok (.putfield 118, 3) := by decide +kernel
theorem dX4_unmount_28 : decode cX4_unmount 28 = .ok (.aload_n 2, 1) := by decide +kernel
theorem dX4_unmount_29 : decode cX4_unmount 29 = .ok (.iconst (-1), 1) := by decide +kernel
theorem dX4_unmount_30 : decode cX4_unmount 30 = .ok (.putfield 128, 3) := by decide +kernel
theorem dX4_unmount_33 : decode cX4_unmount 33 = .ok (.aload_n 3, 1) := by decide +kernel
theorem dX4_unmount_34 : decode cX4_unmount 34 = .ok (.iconst (-1), 1) := by decide +kernel
theorem dX4_unmount_35 : decode cX4_unmount 35 = .ok (.putfield 85, 3) := by decide +kernel
theorem dX4_unmount_38 : decode cX4_unmount 38 = .ok (.aload_n 2, 1) := by decide +kernel
theorem dX4_unmount_39 : decode cX4_unmount 39 = .ok (.iload 4, 2) := by decide +kernel
theorem dX4_unmount_41 : decode cX4_unmount 41 = .ok (.aload_n 2, 1) := by decide +kernel
theorem dX4_unmount_42 : decode cX4_unmount 42 = .ok (.aload_n 3, 1) := by decide +kernel
theorem dX4_unmount_43 : decode cX4_unmount 43 = .ok (.getfield 82, 3) := by decide +kernel
theorem dX4_unmount_46 : decode cX4_unmount 46 = .ok (.invokevirtual 134, 3) := by decide +kernel
theorem dX4_unmount_49 : decode cX4_unmount 49 = .ok (.iadd, 1) := by decide +kernel
theorem dX4_unmount_50 : decode cX4_unmount 50 = .ok (.invokevirtual 137, 3) := by decide +kernel
theorem dX4_unmount_53 : decode cX4_unmount 53 = .ok (.ireturn, 1) := by decide +kernel
set_option maxRecDepth 20000 in
theorem ggX4_write_X4_driveNumbered : GoodIn wsX4_write wsX4_driveNumbered := goodIn_ca (goodIn_r _ [9, 10, 11, 12, 83, 84, 85, 86, 87, 88] (by decide +kernel) (by decide +kernel)) (goodIn_sub (fun _ h => List.mem_cons_of_mem _ (List.mem_append_right _ h)) (by decide +kernel))
set_option maxRecDepth 20000 in
theorem gX4_write_X4_driveNumbered : GoodIn wsX4_write (wsV RX4 114 RX4 yX4_driveNumbered wsX4_driveNumbered) := goodIn_app (goodIn_of _ (by decide +kernel)) ggX4_write_X4_driveNumbered
set_option maxRecDepth 20000 in
theorem ggX4_write_X4_mountedIn : GoodIn wsX4_write wsX4_mountedIn := goodIn_ca (goodIn_r _ [15, 3, 4, 89, 90, 91, 92, 93, 94, 95] (by decide +kernel) (by decide +kernel)) (goodIn_sub (fun _ h => List.mem_cons_of_mem _ (List.mem_append_left _ (List.mem_append_right _ h))) (by decide +kernel))
set_option maxRecDepth 20000 in
theorem gX4_write_X4_mountedIn : GoodIn wsX4_write (va_wsS RX4 140 yX4_mountedIn wsX4_mountedIn) := goodIn_app (goodIn_of _ (by decide +kernel)) ggX4_write_X4_mountedIn
set_option maxRecDepth 20000 in
theorem ggX4_write_X4_refuseUnclean : GoodIn wsX4_write wsX4_refuseUnclean := goodIn_ca (goodIn_r _ [18, 3, 4, 19, 20, 21, 22, 23, 89, 90, 91, 92, 93, 94, 95] (by decide +kernel) (by decide +kernel)) (goodIn_sub (fun _ h => List.mem_cons_of_mem _ (List.mem_append_left _ (List.mem_append_right _ h))) (by decide +kernel))
set_option maxRecDepth 20000 in
theorem gX4_write_X4_refuseUnclean : GoodIn wsX4_write (va_wsS RX4 150 yX4_refuseUnclean wsX4_refuseUnclean) := goodIn_app (goodIn_of _ (by decide +kernel)) ggX4_write_X4_refuseUnclean
set_option maxRecDepth 20000 in
theorem ggX4_write_X3_hasRoomFor : GoodIn wsX4_write wsX3_hasRoomFor := goodIn_r _ [27, 28, 29, 30, 31, 25, 32, 33, 34, 8, 35, 36, 37, 38, 39, 40, 41, 96, 97, 98, 99, 100, 101, 102, 103] (by decide +kernel) (by decide +kernel)
set_option maxRecDepth 20000 in
theorem gX4_write_X3_hasRoomFor_n154 : GoodIn wsX4_write (wsX3_hasRoomFor) := ggX4_write_X3_hasRoomFor
set_option maxRecDepth 20000 in
theorem ggX4_write_X3_append : GoodIn wsX4_write wsX3_append := goodIn_r _ [44, 33, 28, 29, 30, 31, 25, 32, 34, 8, 35, 45, 46, 96, 97, 98, 99, 100, 101, 102, 103] (by decide +kernel) (by decide +kernel)
set_option maxRecDepth 20000 in
theorem gX4_write_X3_append_n159 : GoodIn wsX4_write (wsX3_append) := ggX4_write_X3_append
set_option maxRecDepth 20000 in
theorem ggX4_write_X0_passFile : GoodIn wsX4_write wsX0_passFile := goodIn_r _ [49, 50, 23, 51, 52, 53, 20, 54, 30, 25, 31, 32, 33, 34, 8, 35, 55, 56, 57, 58, 59, 60, 61, 62, 63, 64, 65, 66, 67, 41, 68, 69, 70, 71, 72, 73, 74, 40, 75, 76, 77, 78, 79, 80, 81, 82, 89, 90, 91, 92, 93, 94, 95, 96, 97, 98, 99, 100, 101, 102, 103] (by decide +kernel) (by decide +kernel)
set_option maxRecDepth 20000 in
theorem gX4_write_X0_passFile_n162 : GoodIn wsX4_write (wsX0_passFile) := ggX4_write_X0_passFile
theorem dX4_write_0 : decode cX4_write 0 = .ok (.aload_n 0, 1) := by decide +kernel
theorem dX4_write_1 : decode cX4_write 1 = .ok (.iload_n 1, 1) := by decide +kernel
theorem dX4_write_2 : decode cX4_write 2 = .ok (.invokevirtual 114, 3) := by decide +kernel
theorem dX4_write_5 : decode cX4_write 5 = .ok (.astore_n 3, 1) := by decide +kernel
theorem dX4_write_6 : decode cX4_write 6 = .ok (.iload_n 2, 1) := by decide +kernel
theorem dX4_write_7 : decode cX4_write 7 = .ok (.iconst 1, 1) := by decide +kernel
theorem dX4_write_8 : decode cX4_write 8 = .ok (.if_icmp .lt 9, 3) := by decide +kernel
theorem dX4_write_11 : decode cX4_write 11 = .ok (.iload_n 2, 1) := by decide +kernel
theorem dX4_write_12 : decode cX4_write 12 = .ok (.bipush 100, 2) := by decide +kernel
theorem dX4_write_14 : decode cX4_write 14 = .ok (.if_icmp .le 13, 3) := by decide +kernel
theorem dX4_write_17 : decode cX4_write 17 = .ok (.new 42, 3) := by decide +kernel
theorem dX4_write_20 : decode cX4_write 20 = .ok (.dup, 1) := by decide +kernel
theorem dX4_write_21 : decode cX4_write 21 = .ok (.ldc 148, 2) := by decide +kernel
theorem dX4_write_23 : decode cX4_write 23 = .ok (.invokespecial 46, 3) := by decide +kernel
theorem dX4_write_26 : decode cX4_write 26 = .ok (.athrow, 1) := by decide +kernel
theorem dX4_write_27 : decode cX4_write 27 = .ok (.aload_n 3, 1) := by decide +kernel
theorem dX4_write_28 : decode cX4_write 28 = .ok (.invokestatic 140, 3) := by decide +kernel
theorem dX4_write_31 : decode cX4_write 31 = .ok (.astore 4, 2) := by decide +kernel
theorem dX4_write_33 : decode cX4_write 33 = .ok (.aload_n 3, 1) := by decide +kernel
theorem dX4_write_34 : decode cX4_write 34 = .ok (.invokestatic 150, 3) := by decide +kernel
theorem dX4_write_37 : decode cX4_write 37 = .ok (.aload 4, 2) := by decide +kernel
theorem dX4_write_39 : decode cX4_write 39 = .ok (.iload_n 2, 1) := by decide +kernel
theorem dX4_write_40 : decode cX4_write 40 = .ok (.invokevirtual 154, 3) := by decide +kernel
theorem dX4_write_43 : decode cX4_write 43 = .ok (.ifCond .ne 13, 3) := by decide +kernel
theorem dX4_write_46 : decode cX4_write 46 = .ok (.new 51, 3) := by decide +kernel
theorem dX4_write_49 : decode cX4_write 49 = .ok (.dup, 1) := by decide +kernel
theorem dX4_write_50 : decode cX4_write 50 = .ok (.ldc 157, 2) := by decide +kernel
theorem dX4_write_52 : decode cX4_write 52 = .ok (.invokespecial 55, 3) := by decide +kernel
theorem dX4_write_55 : decode cX4_write 55 = .ok (.athrow, 1) := by decide +kernel
theorem dX4_write_56 : decode cX4_write 56 = .ok (.aload 4, 2) := by decide +kernel
theorem dX4_write_58 : decode cX4_write 58 = .ok (.iload_n 2, 1) := by decide +kernel
theorem dX4_write_59 : decode cX4_write 59 = .ok (.invokevirtual 159, 3) := by decide +kernel
theorem dX4_write_62 : decode cX4_write 62 = .ok (.istore 5, 2) := by decide +kernel
theorem dX4_write_64 : decode cX4_write 64 = .ok (.aload_n 3, 1) := by decide +kernel
theorem dX4_write_65 : decode cX4_write 65 = .ok (.aload 4, 2) := by decide +kernel
theorem dX4_write_67 : decode cX4_write 67 = .ok (.iload 5, 2) := by decide +kernel
theorem dX4_write_69 : decode cX4_write 69 = .ok (.invokevirtual 162, 3) := by decide +kernel
theorem dX4_write_72 : decode cX4_write 72 = .ok (.ireturn, 1) := by decide +kernel
set_option maxRecDepth 20000 in
theorem ggX4_read_X4_driveNumbered : GoodIn wsX4_read wsX4_driveNumbered := goodIn_ca (goodIn_r _ [5, 6, 7, 8, 70, 71, 72, 73, 74, 75] (by decide +kernel) (by decide +kernel)) (goodIn_sub (fun _ h => List.mem_cons_of_mem _ (List.mem_append_left _ (List.mem_append_right _ h))) (by decide +kernel))
set_option maxRecDepth 20000 in
theorem gX4_read_X4_driveNumbered : GoodIn wsX4_read (wsV RX4 114 RX4 yX4_driveNumbered wsX4_driveNumbered) := goodIn_app (goodIn_of _ (by decide +kernel)) ggX4_read_X4_driveNumbered
set_option maxRecDepth 20000 in
theorem ggX4_read_X4_mountedIn : GoodIn wsX4_read wsX4_mountedIn := goodIn_ca (goodIn_r _ [11, 12, 13, 76, 77, 78, 79, 80, 81, 82] (by decide +kernel) (by decide +kernel)) (goodIn_sub (fun _ h => List.mem_cons_of_mem _ (List.mem_append_right _ h)) (by decide +kernel))
set_option maxRecDepth 20000 in
theorem gX4_read_X4_mountedIn : GoodIn wsX4_read (va_wsS RX4 140 yX4_mountedIn wsX4_mountedIn) := goodIn_app (goodIn_of _ (by decide +kernel)) ggX4_read_X4_mountedIn
set_option maxRecDepth 20000 in
theorem ggX4_read_X4_refuseMissingFile : GoodIn wsX4_read wsX4_refuseMissingFile := goodIn_ca (goodIn_r _ [16, 6, 7, 83, 84, 85, 86, 87, 88, 89, 90] (by decide +kernel) (by decide +kernel)) (goodIn_sub (fun _ h => List.mem_cons_of_mem _ (List.mem_append_left _ (List.mem_append_right _ h))) (by decide +kernel))
set_option maxRecDepth 20000 in
theorem gX4_read_X4_refuseMissingFile : GoodIn wsX4_read (va_wsS RX4 91 yX4_refuseMissingFile wsX4_refuseMissingFile) := goodIn_app (goodIn_of _ (by decide +kernel)) ggX4_read_X4_refuseMissingFile
set_option maxRecDepth 20000 in
theorem ggX4_read_X4_refuseUnclean : GoodIn wsX4_read wsX4_refuseUnclean := goodIn_ca (goodIn_r _ [19, 12, 13, 20, 21, 22, 23, 24, 76, 77, 78, 79, 80, 81, 82] (by decide +kernel) (by decide +kernel)) (goodIn_sub (fun _ h => List.mem_cons_of_mem _ (List.mem_append_right _ h)) (by decide +kernel))
set_option maxRecDepth 20000 in
theorem gX4_read_X4_refuseUnclean : GoodIn wsX4_read (va_wsS RX4 150 yX4_refuseUnclean wsX4_refuseUnclean) := goodIn_app (goodIn_of _ (by decide +kernel)) ggX4_read_X4_refuseUnclean
set_option maxRecDepth 20000 in
theorem ggX4_read_X0_passFile : GoodIn wsX4_read wsX0_passFile := goodIn_r _ [27, 28, 24, 29, 30, 31, 21, 32, 33, 34, 35, 36, 37, 38, 4, 39, 40, 41, 42, 43, 44, 45, 46, 47, 48, 49, 50, 51, 52, 53, 54, 55, 56, 57, 58, 59, 60, 61, 62, 63, 64, 65, 66, 67, 68, 69, 76, 77, 78, 79, 80, 81, 82, 83, 84, 85, 86, 87, 88, 89, 90] (by decide +kernel) (by decide +kernel)
set_option maxRecDepth 20000 in
theorem gX4_read_X0_passFile_n162 : GoodIn wsX4_read (wsX0_passFile) := ggX4_read_X0_passFile
theorem dX4_read_0 : decode cX4_read 0 = .ok (.aload_n 0, 1) := by decide +kernel
theorem dX4_read_1 : decode cX4_read 1 = .ok (.iload_n 1, 1) := by decide +kernel
theorem dX4_read_2 : decode cX4_read 2 = .ok (.invokevirtual 114, 3) := by decide +kernel
theorem dX4_read_5 : decode cX4_read 5 = .ok (.astore_n 3, 1) := by decide +kernel
theorem dX4_read_6 : decode cX4_read 6 = .ok (.aload_n 3, 1) := by decide +kernel
theorem dX4_read_7 : decode cX4_read 7 = .ok (.invokestatic 140, 3) := by decide +kernel
theorem dX4_read_10 : decode cX4_read 10 = .ok (.astore 4, 2) := by decide +kernel
theorem dX4_read_12 : decode cX4_read 12 = .ok (.aload 4, 2) := by decide +kernel
theorem dX4_read_14 : decode cX4_read 14 = .ok (.iload_n 2, 1) := by decide +kernel
theorem dX4_read_15 : decode cX4_read 15 = .ok (.invokestatic 91, 3) := by decide +kernel
theorem dX4_read_18 : decode cX4_read 18 = .ok (.aload_n 3, 1) := by decide +kernel
theorem dX4_read_19 : decode cX4_read 19 = .ok (.invokestatic 150, 3) := by decide +kernel
theorem dX4_read_22 : decode cX4_read 22 = .ok (.aload_n 3, 1) := by decide +kernel
theorem dX4_read_23 : decode cX4_read 23 = .ok (.aload 4, 2) := by decide +kernel
theorem dX4_read_25 : decode cX4_read 25 = .ok (.iload_n 2, 1) := by decide +kernel
theorem dX4_read_26 : decode cX4_read 26 = .ok (.invokevirtual 162, 3) := by decide +kernel
theorem dX4_read_29 : decode cX4_read 29 = .ok (.ireturn, 1) := by decide +kernel
set_option maxRecDepth 20000 in
theorem ggX4_clean_X4_driveNumbered : GoodIn wsX4_clean wsX4_driveNumbered := goodIn_ca (goodIn_r _ [7, 8, 9, 10, 23, 24, 25, 26, 27, 28] (by decide +kernel) (by decide +kernel)) (goodIn_sub (fun _ h => List.mem_cons_of_mem _ (List.mem_append_right _ h)) (by decide +kernel))
set_option maxRecDepth 20000 in
theorem gX4_clean_X4_driveNumbered : GoodIn wsX4_clean (wsV RX4 114 RX4 yX4_driveNumbered wsX4_driveNumbered) := goodIn_app (goodIn_of _ (by decide +kernel)) ggX4_clean_X4_driveNumbered
set_option maxRecDepth 20000 in
theorem ggX4_clean_X0_spend : GoodIn wsX4_clean wsX0_spend := goodIn_r _ [14, 15, 16, 17, 18, 19, 20, 21, 22] (by decide +kernel) (by decide +kernel)
set_option maxRecDepth 20000 in
theorem gX4_clean_X0_spend_n137 : GoodIn wsX4_clean (wsX0_spend) := ggX4_clean_X0_spend
theorem dX4_clean_0 : decode cX4_clean 0 = .ok (.aload_n 0, 1) := by decide +kernel
theorem dX4_clean_1 : decode cX4_clean 1 = .ok (.iload_n 1, 1) := by decide +kernel
theorem dX4_clean_2 : decode cX4_clean 2 = .ok (.invokevirtual 114, 3) := by decide +kernel
theorem dX4_clean_5 : decode cX4_clean 5 = .ok (.astore_n 2, 1) := by decide +kernel
theorem dX4_clean_6 : decode cX4_clean 6 = .ok (.aload_n 2, 1) := by decide +kernel
theorem dX4_clean_7 : decode cX4_clean 7 = .ok (.getfield 118, 3) := by decide +kernel
theorem dX4_clean_10 : decode cX4_clean 10 = .ok (.ifnull 13, 3) := by decide +kernel
theorem dX4_clean_13 : decode cX4_clean 13 = .ok (.new 51, 3) := by decide +kernel
theorem dX4_clean_16 : decode cX4_clean 16 = .ok (.dup, 1) := by decide +kernel
theorem dX4_clean_17 : decode cX4_clean 17 = .ok (.ldc 166, 2) := by decide +kernel
theorem dX4_clean_19 : decode cX4_clean 19 = .ok (.invokespecial 55, 3) := by decide +kernel
theorem dX4_clean_22 : decode cX4_clean 22 = .ok (.athrow, 1) := by decide +kernel
theorem dX4_clean_23 : decode cX4_clean 23 = .ok (.aload_n 2, 1) := by decide +kernel
theorem dX4_clean_24 : decode cX4_clean 24 = .ok (.getfield 168, 3) := by decide +kernel
theorem dX4_clean_27 : decode cX4_clean 27 = .ok (.istore_n 3, 1) := by decide +kernel
theorem dX4_clean_28 : decode cX4_clean 28 = .ok (.aload_n 2, 1) := by decide +kernel
theorem dX4_clean_29 : decode cX4_clean 29 = .ok (.iconst 0, 1) := by decide +kernel
theorem dX4_clean_30 : decode cX4_clean 30 = .ok (.putfield 168, 3) := by decide +kernel
theorem dX4_clean_33 : decode cX4_clean 33 = .ok (.aload_n 2, 1) := by decide +kernel
theorem dX4_clean_34 : decode cX4_clean 34 = .ok (.bipush 50, 2) := by decide +kernel
theorem dX4_clean_36 : decode cX4_clean 36 = .ok (.invokevirtual 137, 3) := by decide +kernel
theorem dX4_clean_39 : decode cX4_clean 39 = .ok (.pop, 1) := by decide +kernel
theorem dX4_clean_40 : decode cX4_clean 40 = .ok (.iload_n 3, 1) := by decide +kernel
theorem dX4_clean_41 : decode cX4_clean 41 = .ok (.ireturn, 1) := by decide +kernel
set_option maxRecDepth 20000 in
theorem ggX4_clock_X4_driveNumbered : GoodIn wsX4_clock wsX4_driveNumbered := goodIn_ca (goodIn_r _ [5, 6, 7, 8, 16, 17, 18, 19, 20, 21] (by decide +kernel) (by decide +kernel)) (goodIn_sub (fun _ h => List.mem_cons_of_mem _ (List.mem_append_right _ h)) (by decide +kernel))
set_option maxRecDepth 20000 in
theorem gX4_clock_X4_driveNumbered : GoodIn wsX4_clock (wsV RX4 114 RX4 yX4_driveNumbered wsX4_driveNumbered) := goodIn_app (goodIn_of _ (by decide +kernel)) ggX4_clock_X4_driveNumbered
theorem dX4_clock_0 : decode cX4_clock 0 = .ok (.aload_n 0, 1) := by decide +kernel
theorem dX4_clock_1 : decode cX4_clock 1 = .ok (.iload_n 1, 1) := by decide +kernel
theorem dX4_clock_2 : decode cX4_clock 2 = .ok (.invokevirtual 114, 3) := by decide +kernel
theorem dX4_clock_5 : decode cX4_clock 5 = .ok (.getfield 171, 3) := by decide +kernel
theorem dX4_clock_8 : decode cX4_clock 8 = .ok (.ireturn, 1) := by decide +kernel
set_option maxRecDepth 20000 in
theorem ggX4_stands_X4_driveNumbered : GoodIn wsX4_stands wsX4_driveNumbered := goodIn_ca (goodIn_r _ [5, 6, 7, 8, 16, 17, 18, 19, 20, 21] (by decide +kernel) (by decide +kernel)) (goodIn_sub (fun _ h => List.mem_cons_of_mem _ (List.mem_append_right _ h)) (by decide +kernel))
set_option maxRecDepth 20000 in
theorem gX4_stands_X4_driveNumbered : GoodIn wsX4_stands (wsV RX4 114 RX4 yX4_driveNumbered wsX4_driveNumbered) := goodIn_app (goodIn_of _ (by decide +kernel)) ggX4_stands_X4_driveNumbered
theorem dX4_stands_0 : decode cX4_stands 0 = .ok (.aload_n 0, 1) := by decide +kernel
theorem dX4_stands_1 : decode cX4_stands 1 = .ok (.iload_n 1, 1) := by decide +kernel
theorem dX4_stands_2 : decode cX4_stands 2 = .ok (.invokevirtual 114, 3) := by decide +kernel
theorem dX4_stands_5 : decode cX4_stands 5 = .ok (.getfield 128, 3) := by decide +kernel
theorem dX4_stands_8 : decode cX4_stands 8 = .ok (.ireturn, 1) := by decide +kernel
set_option maxRecDepth 20000 in
theorem ggX4_job_X4_tapeNumbered : GoodIn wsX4_job wsX4_tapeNumbered := goodIn_ca (goodIn_r _ [11, 12, 13, 14, 33, 34, 35, 36, 37, 38] (by decide +kernel) (by decide +kernel)) (goodIn_sub (fun _ h => List.mem_cons_of_mem _ (List.mem_append_right _ h)) (by decide +kernel))
set_option maxRecDepth 20000 in
theorem gX4_job_X4_tapeNumbered : GoodIn wsX4_job (wsV RX4 63 RX4 yX4_tapeNumbered wsX4_tapeNumbered) := goodIn_app (goodIn_of _ (by decide +kernel)) ggX4_job_X4_tapeNumbered
set_option maxRecDepth 20000 in
theorem ggX4_job_X4_refuseMissingFile : GoodIn wsX4_job wsX4_refuseMissingFile := goodIn_ca (goodIn_r _ [17, 12, 13, 44, 45, 46, 47, 48, 49, 50, 51] (by decide +kernel) (by decide +kernel)) (goodIn_sub (fun _ h => List.mem_cons_of_mem _ (List.mem_append_right _ h)) (by decide +kernel))
set_option maxRecDepth 20000 in
theorem gX4_job_X4_refuseMissingFile : GoodIn wsX4_job (va_wsS RX4 91 yX4_refuseMissingFile wsX4_refuseMissingFile) := goodIn_app (goodIn_of _ (by decide +kernel)) ggX4_job_X4_refuseMissingFile
set_option maxRecDepth 20000 in
theorem ggX4_job_X1_countAt : GoodIn wsX4_job wsX1_countAt := goodIn_r _ [21, 22, 23, 24, 10, 25, 39, 40, 41, 42, 43] (by decide +kernel) (by decide +kernel)
set_option maxRecDepth 20000 in
theorem gX4_job_X1_countAt_n180 : GoodIn wsX4_job (wsX1_countAt) := ggX4_job_X1_countAt
set_option maxRecDepth 20000 in
theorem ggX4_job_X1_enter : GoodIn wsX4_job wsX1_enter := goodIn_r _ [28, 23, 22, 29, 30, 31, 10, 32, 39, 40, 41, 42, 43] (by decide +kernel) (by decide +kernel)
set_option maxRecDepth 20000 in
theorem gX4_job_X1_enter_n185 : GoodIn wsX4_job (wsX1_enter) := ggX4_job_X1_enter
theorem dX4_job_0 : decode cX4_job 0 = .ok (.aload_n 0, 1) := by decide +kernel
theorem dX4_job_1 : decode cX4_job 1 = .ok (.iload_n 1, 1) := by decide +kernel
theorem dX4_job_2 : decode cX4_job 2 = .ok (.invokevirtual 63, 3) := by decide +kernel
theorem dX4_job_5 : decode cX4_job 5 = .ok (.astore 4, 2) := by decide +kernel
theorem dX4_job_7 : decode cX4_job 7 = .ok (.aload 4, 2) := by decide +kernel
theorem dX4_job_9 : decode cX4_job 9 = .ok (.iload_n 2, 1) := by decide +kernel
theorem dX4_job_10 : decode cX4_job 10 = .ok (.invokestatic 91, 3) := by decide +kernel
theorem dX4_job_13 : decode cX4_job 13 = .ok (.iload_n 3, 1) := by decide +kernel
theorem dX4_job_14 : decode cX4_job 14 = .ok (.ifCond .lt 9, 3) := by decide +kernel
theorem dX4_job_17 : decode cX4_job 17 = .ok (.iload_n 3, 1) := by decide +kernel
theorem dX4_job_18 : decode cX4_job 18 = .ok (.ldc 174, 2) := by decide +kernel
theorem dX4_job_20 : decode cX4_job 20 = .ok (.if_icmp .le 13, 3) := by decide +kernel
theorem dX4_job_23 : decode cX4_job 23 = .ok (.new 42, 3) := by decide +kernel
theorem dX4_job_26 : decode cX4_job 26 = .ok (.dup, 1) := by decide +kernel
theorem dX4_job_27 : decode cX4_job 27 = .ok (.ldc 175, 2) := by decide +kernel
theorem dX4_job_29 : decode cX4_job 29 = .ok (.invokespecial 46, 3) := by decide +kernel
theorem dX4_job_32 : decode cX4_job 32 = .ok (.athrow, 1) := by decide +kernel
theorem dX4_job_33 : decode cX4_job 33 = .ok (.aload_n 0, 1) := by decide +kernel
theorem dX4_job_34 : decode cX4_job 34 = .ok (.getfield 31, 3) := by decide +kernel
theorem dX4_job_37 : decode cX4_job 37 = .ok (.getfield 177, 3) := by decide +kernel
theorem dX4_job_40 : decode cX4_job 40 = .ok (.bipush 60, 2) := by decide +kernel
theorem dX4_job_42 : decode cX4_job 42 = .ok (.if_icmp .ge 16, 3) := by decide +kernel
theorem dX4_job_45 : decode cX4_job 45 = .ok (.aload_n 0, 1) := by decide +kernel
theorem dX4_job_46 : decode cX4_job 46 = .ok (.getfield 31, 3) := by decide +kernel
theorem dX4_job_49 : decode cX4_job 49 = .ok (.iload_n 1, 1) := by decide +kernel
theorem dX4_job_50 : decode cX4_job 50 = .ok (.invokevirtual 180, 3) := by decide +kernel
theorem dX4_job_53 : decode cX4_job 53 = .ok (.bipush 7, 2) := by decide +kernel
theorem dX4_job_55 : decode cX4_job 55 = .ok (.if_icmp .lt 13, 3) := by decide +kernel
theorem dX4_job_58 : decode cX4_job 58 = .ok (.new 51, 3) := by decide +kernel
theorem dX4_job_61 : decode cX4_job 61 = .ok (.dup, 1) := by decide +kernel
theorem dX4_job_62 : decode cX4_job 62 = .ok (.ldc 183, 2) := by decide +kernel
theorem dX4_job_64 : decode cX4_job 64 = .ok (.invokespecial 55, 3) := by decide +kernel
theorem dX4_job_67 : decode cX4_job 67 = .ok (.athrow, 1) := by decide +kernel
theorem dX4_job_68 : decode cX4_job 68 = .ok (.aload_n 0, 1) := by decide +kernel
theorem dX4_job_69 : decode cX4_job 69 = .ok (.getfield 31, 3) := by decide +kernel
theorem dX4_job_72 : decode cX4_job 72 = .ok (.iload_n 1, 1) := by decide +kernel
theorem dX4_job_73 : decode cX4_job 73 = .ok (.iload_n 2, 1) := by decide +kernel
theorem dX4_job_74 : decode cX4_job 74 = .ok (.iload_n 3, 1) := by decide +kernel
theorem dX4_job_75 : decode cX4_job 75 = .ok (.invokevirtual 185, 3) := by decide +kernel
theorem dX4_job_78 : decode cX4_job 78 = .ok (.ireturn, 1) := by decide +kernel
set_option maxRecDepth 20000 in
theorem ggX4_waiting_X4_tapeNumbered : GoodIn wsX4_waiting wsX4_tapeNumbered := goodIn_ca (goodIn_r _ [6, 7, 8, 9, 18, 19, 20, 21, 22, 23] (by decide +kernel) (by decide +kernel)) (goodIn_sub (fun _ h => List.mem_cons_of_mem _ (List.mem_append_right _ h)) (by decide +kernel))
set_option maxRecDepth 20000 in
theorem gX4_waiting_X4_tapeNumbered : GoodIn wsX4_waiting (wsV RX4 63 RX4 yX4_tapeNumbered wsX4_tapeNumbered) := goodIn_app (goodIn_of _ (by decide +kernel)) ggX4_waiting_X4_tapeNumbered
set_option maxRecDepth 20000 in
theorem ggX4_waiting_X1_countAt : GoodIn wsX4_waiting wsX1_countAt := goodIn_r _ [13, 14, 15, 16, 5, 17, 32, 33, 34, 35, 36] (by decide +kernel) (by decide +kernel)
set_option maxRecDepth 20000 in
theorem gX4_waiting_X1_countAt_n180 : GoodIn wsX4_waiting (wsX1_countAt) := ggX4_waiting_X1_countAt
theorem dX4_waiting_0 : decode cX4_waiting 0 = .ok (.aload_n 0, 1) := by decide +kernel
theorem dX4_waiting_1 : decode cX4_waiting 1 = .ok (.getfield 31, 3) := by decide +kernel
theorem dX4_waiting_4 : decode cX4_waiting 4 = .ok (.aload_n 0, 1) := by decide +kernel
theorem dX4_waiting_5 : decode cX4_waiting 5 = .ok (.iload_n 1, 1) := by decide +kernel
theorem dX4_waiting_6 : decode cX4_waiting 6 = .ok (.invokevirtual 63, 3) := by decide +kernel
theorem dX4_waiting_9 : decode cX4_waiting 9 = .ok (.getfield 189, 3) := by decide +kernel
theorem dX4_waiting_12 : decode cX4_waiting 12 = .ok (.invokevirtual 180, 3) := by decide +kernel
theorem dX4_waiting_15 : decode cX4_waiting 15 = .ok (.ireturn, 1) := by decide +kernel
set_option maxRecDepth 20000 in
theorem ggX4_next_X3_isInDrive : GoodIn wsX4_next wsX3_isInDrive := goodIn_r _ [6, 7, 32, 33, 34, 35, 36, 37, 38, 39] (by decide +kernel) (by decide +kernel)
set_option maxRecDepth 20000 in
theorem gX4_next_X3_isInDrive_n72 : GoodIn wsX4_next (wsX3_isInDrive) := ggX4_next_X3_isInDrive
set_option maxRecDepth 20000 in
theorem ggX4_next_X1_countAt : GoodIn wsX4_next wsX1_countAt := goodIn_r _ [11, 12, 13, 14, 15, 16, 40, 41, 42, 43, 44] (by decide +kernel) (by decide +kernel)
set_option maxRecDepth 20000 in
theorem gX4_next_X1_countAt_n180 : GoodIn wsX4_next (wsX1_countAt) := ggX4_next_X1_countAt
set_option maxRecDepth 20000 in
theorem ggX4_next_X1_earliestDeadlineAt : GoodIn wsX4_next wsX1_earliestDeadlineAt := goodIn_r _ [19, 20, 12, 13, 21, 22, 23, 24, 25, 14, 15, 16, 40, 41, 42, 43, 44] (by decide +kernel) (by decide +kernel)
set_option maxRecDepth 20000 in
theorem gX4_next_X1_earliestDeadlineAt_n190 : GoodIn wsX4_next (wsX1_earliestDeadlineAt) := ggX4_next_X1_earliestDeadlineAt
theorem dX4_next_0 : decode cX4_next 0 = .ok (.iconst (-1), 1) := by decide +kernel
theorem dX4_next_1 : decode cX4_next 1 = .ok (.istore_n 1, 1) := by decide +kernel
theorem dX4_next_2 : decode cX4_next 2 = .ok (.iconst 0, 1) := by decide +kernel
theorem dX4_next_3 : decode cX4_next 3 = .ok (.istore_n 2, 1) := by decide +kernel
theorem dX4_next_4 : decode cX4_next 4 = .ok (.iconst 0, 1) := by decide +kernel
theorem dX4_next_5 : decode cX4_next 5 = .ok (.istore_n 3, 1) := by decide +kernel
theorem dX4_next_6 : decode cX4_next 6 = .ok (.aload_n 0, 1) := by decide +kernel
theorem dX4_next_7 : decode cX4_next 7 = .ok (.getfield 11, 3) := by decide +kernel
theorem dX4_next_10 : decode cX4_next 10 = .ok (.astore 4, 2) := by decide +kernel
theorem dX4_next_12 : decode cX4_next 12 = .ok (.aload 4, 2) := by decide +kernel
theorem dX4_next_14 : decode cX4_next 14 = .ok (.arraylength, 1) := by decide +kernel
theorem dX4_next_15 : decode cX4_next 15 = .ok (.istore 5, 2) := by decide +kernel
theorem dX4_next_17 : decode cX4_next 17 = .ok (.iconst 0, 1) := by decide +kernel
theorem dX4_next_18 : decode cX4_next 18 = .ok (.istore 6, 2) := by decide +kernel
theorem dX4_next_20 : decode cX4_next 20 = .ok (.iload 6, 2) := by decide +kernel
theorem dX4_next_22 : decode cX4_next 22 = .ok (.iload 5, 2) := by decide +kernel
theorem dX4_next_24 : decode cX4_next 24 = .ok (.if_icmp .ge 117, 3) := by decide +kernel
theorem dX4_next_27 : decode cX4_next 27 = .ok (.aload 4, 2) := by decide +kernel
theorem dX4_next_29 : decode cX4_next 29 = .ok (.iload 6, 2) := by decide +kernel
theorem dX4_next_31 : decode cX4_next 31 = .ok (.aaload, 1) := by decide +kernel
theorem dX4_next_32 : decode cX4_next 32 = .ok (.astore 7, 2) := by decide +kernel
theorem dX4_next_34 : decode cX4_next 34 = .ok (.aload 7, 2) := by decide +kernel
theorem dX4_next_36 : decode cX4_next 36 = .ok (.ifnull 99, 3) := by decide +kernel
theorem dX4_next_39 : decode cX4_next 39 = .ok (.aload 7, 2) := by decide +kernel
theorem dX4_next_41 : decode cX4_next 41 = .ok (.invokevirtual 72, 3) := by decide +kernel
theorem dX4_next_44 : decode cX4_next 44 = .ok (.ifCond .ne 91, 3) := by decide +kernel
theorem dX4_next_47 : decode cX4_next 47 = .ok (.aload 7, 2) := by decide +kernel
theorem dX4_next_49 : decode cX4_next 49 = .ok (.getfield 122, 3) := by decide +kernel
theorem dX4_next_52 : decode cX4_next 52 = .ok (.ifCond .eq 83, 3) := by decide +kernel
theorem dX4_next_55 : decode cX4_next 55 = .ok (.aload_n 0, 1) := by decide +kernel
theorem dX4_next_56 : decode cX4_next 56 = .ok (.getfield 31, 3) := by decide +kernel
theorem dX4_next_59 : decode cX4_next 59 = .ok (.aload 7, 2) := by decide +kernel
theorem dX4_next_61 : decode cX4_next 61 = .ok (.getfield 189, 3) := by decide +kernel
theorem dX4_next_64 : decode cX4_next 64 = .ok (.invokevirtual 180, 3) := by decide +kernel
theorem dX4_next_67 : decode cX4_next 67 = .ok (.istore 8, 2) := by decide +kernel
theorem dX4_next_69 : decode cX4_next 69 = .ok (.aload_n 0, 1) := by decide +kernel
theorem dX4_next_70 : decode cX4_next 70 = .ok (.getfield 31, 3) := by decide +kernel
theorem dX4_next_73 : decode cX4_next 73 = .ok (.aload 7, 2) := by decide +kernel
theorem dX4_next_75 : decode cX4_next 75 = .ok (.getfield 189, 3) := by decide +kernel
theorem dX4_next_78 : decode cX4_next 78 = .ok (.invokevirtual 190, 3) := by decide +kernel
theorem dX4_next_81 : decode cX4_next 81 = .ok (.istore 9, 2) := by decide +kernel
theorem dX4_next_83 : decode cX4_next 83 = .ok (.iload_n 1, 1) := by decide +kernel
theorem dX4_next_84 : decode cX4_next 84 = .ok (.iconst (-1), 1) := by decide +kernel
theorem dX4_next_85 : decode cX4_next 85 = .ok (.if_icmp .eq 21, 3) := by decide +kernel
theorem dX4_next_88 : decode cX4_next 88 = .ok (.iload 9, 2) := by decide +kernel
theorem dX4_next_90 : decode cX4_next 90 = .ok (.iload_n 2, 1) := by decide +kernel
theorem dX4_next_91 : decode cX4_next 91 = .ok (.if_icmp .lt 15, 3) := by decide +kernel
theorem dX4_next_94 : decode cX4_next 94 = .ok (.iload 9, 2) := by decide +kernel
theorem dX4_next_96 : decode cX4_next 96 = .ok (.iload_n 2, 1) := by decide +kernel
theorem dX4_next_97 : decode cX4_next 97 = .ok (.if_icmp .ne 13, 3) := by decide +kernel
theorem dX4_next_100 : decode cX4_next 100 = .ok (.iload 8, 2) := by decide +kernel
theorem dX4_next_102 : decode cX4_next 102 = .ok (.iload_n 3, 1) := by decide +kernel
theorem dX4_next_103 : decode cX4_next 103 = .ok (.if_icmp .le 7, 3) := by decide +kernel
theorem dX4_next_106 : decode cX4_next 106 = .ok (.iconst 1, 1) := by decide +kernel
theorem dX4_next_107 : decode cX4_next 107 = .ok (.goto 4, 3) := by decide +kernel
theorem dX4_next_110 : decode cX4_next 110 = .ok (.iconst 0, 1) := by decide +kernel
theorem dX4_next_111 : decode cX4_next 111 = .ok (.istore 10, 2) := by decide +kernel
theorem dX4_next_113 : decode cX4_next 113 = .ok (.iload 8, 2) := by decide +kernel
theorem dX4_next_115 : decode cX4_next 115 = .ok (.ifCond .le 20, 3) := by decide +kernel
theorem dX4_next_118 : decode cX4_next 118 = .ok (.iload 10, 2) := by decide +kernel
theorem dX4_next_120 : decode cX4_next 120 = .ok (.ifCond .eq 15, 3) := by decide +kernel
theorem dX4_next_123 : decode cX4_next 123 = .ok (.aload 7, 2) := by decide +kernel
theorem dX4_next_125 : decode cX4_next 125 = .ok (.getfield 189, 3) := by decide +kernel
theorem dX4_next_128 : decode cX4_next 128 = .ok (.istore_n 1, 1) := by decide +kernel
theorem dX4_next_129 : decode cX4_next 129 = .ok (.iload 9, 2) := by decide +kernel
theorem dX4_next_131 : decode cX4_next 131 = .ok (.istore_n 2, 1) := by decide +kernel
theorem dX4_next_132 : decode cX4_next 132 = .ok (.iload 8, 2) := by decide +kernel
theorem dX4_next_134 : decode cX4_next 134 = .ok (.istore_n 3, 1) := by decide +kernel
theorem dX4_next_135 : decode cX4_next 135 = .ok (.iinc 6 1, 3) := by decide +kernel
theorem dX4_next_138 : decode cX4_next 138 = .ok (.goto (-118), 3) := by decide +kernel
theorem dX4_next_141 : decode cX4_next 141 = .ok (.iload_n 1, 1) := by decide +kernel
theorem dX4_next_142 : decode cX4_next 142 = .ok (.ireturn, 1) := by decide +kernel
set_option maxRecDepth 20000 in
theorem ggX4_bestTime_X4_driveNumbered : GoodIn wsX4_bestTime wsX4_driveNumbered := goodIn_ca (goodIn_r _ [6, 7, 8, 9, 100, 101, 102, 103, 104, 105] (by decide +kernel) (by decide +kernel)) (goodIn_sub (fun _ h => List.mem_cons_of_mem _ (List.mem_append_left _ (List.mem_append_right _ h))) (by decide +kernel))
set_option maxRecDepth 20000 in
theorem gX4_bestTime_X4_driveNumbered : GoodIn wsX4_bestTime (wsV RX4 114 RX4 yX4_driveNumbered wsX4_driveNumbered) := goodIn_app (goodIn_of _ (by decide +kernel)) ggX4_bestTime_X4_driveNumbered
set_option maxRecDepth 20000 in
theorem ggX4_bestTime_X4_measureOrders : GoodIn wsX4_bestTime wsX4_measureOrders := goodIn_ca (goodIn_r _ [13, 1, 14, 15, 16, 5, 17, 18, 19, 20, 21, 22, 23, 24, 25, 26, 27, 28, 29, 30, 31, 32, 33, 34, 35, 36, 37, 38, 39, 40, 41, 42, 43, 44, 45, 46, 47, 48, 49, 50, 51, 52, 53, 54, 55, 56, 57, 58, 59, 60, 61, 62, 63, 64, 65, 66, 67, 68, 69, 70, 71, 72, 73, 74, 75, 100, 101, 102, 103, 104, 105, 112, 113, 114, 115, 116, 117, 118, 119, 120, 121, 122, 123, 124, 125, 126, 106, 107, 108, 109, 110, 111, 127, 128, 129, 130, 131] (by decide +kernel) (by decide +kernel)) (goodIn_sub (fun _ h => List.mem_cons_of_mem _ (List.mem_append_right _ h)) (by decide +kernel))
set_option maxRecDepth 20000 in
theorem gX4_bestTime_X4_measureOrders : GoodIn wsX4_bestTime (wsV RX4 193 RX4 yX4_measureOrders wsX4_measureOrders) := goodIn_app (goodIn_of _ (by decide +kernel)) ggX4_bestTime_X4_measureOrders
set_option maxRecDepth 20000 in
theorem ggX4_bestTime_X2_findBest : GoodIn wsX4_bestTime wsX2_findBest := goodIn_r _ [78, 25, 79, 80, 81, 82, 83, 21, 84, 85, 86, 87, 88, 89, 90, 91, 92, 93, 94, 95, 96, 26, 37, 5, 38, 39, 40, 106, 107, 108, 109, 110, 111] (by decide +kernel) (by decide +kernel)
set_option maxRecDepth 20000 in
theorem gX4_bestTime_X2_findBest_n196 : GoodIn wsX4_bestTime (wsX2_findBest) := ggX4_bestTime_X2_findBest
set_option maxRecDepth 20000 in
theorem ggX4_bestTime_X2_timeOf : GoodIn wsX4_bestTime wsX2_timeOf := goodIn_r _ [99, 37, 5, 38, 93, 94, 95, 21, 96, 26, 106, 107, 108, 109, 110, 111] (by decide +kernel) (by decide +kernel)
set_option maxRecDepth 20000 in
theorem gX4_bestTime_X2_timeOf_n204 : GoodIn wsX4_bestTime (wsX2_timeOf) := ggX4_bestTime_X2_timeOf
theorem dX4_bestTime_0 : decode cX4_bestTime 0 = .ok (.aload_n 0, 1) := by decide +kernel
theorem dX4_bestTime_1 : decode cX4_bestTime 1 = .ok (.aload_n 0, 1) := by decide +kernel
theorem dX4_bestTime_2 : decode cX4_bestTime 2 = .ok (.iload_n 1, 1) := by decide +kernel
theorem dX4_bestTime_3 : decode cX4_bestTime 3 = .ok (.invokevirtual 114, 3) := by decide +kernel
theorem dX4_bestTime_6 : decode cX4_bestTime 6 = .ok (.invokevirtual 193, 3) := by decide +kernel
theorem dX4_bestTime_9 : decode cX4_bestTime 9 = .ok (.aload_n 0, 1) := by decide +kernel
theorem dX4_bestTime_10 : decode cX4_bestTime 10 = .ok (.getfield 38, 3) := by decide +kernel
theorem dX4_bestTime_13 : decode cX4_bestTime 13 = .ok (.invokevirtual 196, 3) := by decide +kernel
theorem dX4_bestTime_16 : decode cX4_bestTime 16 = .ok (.aload_n 0, 1) := by decide +kernel
theorem dX4_bestTime_17 : decode cX4_bestTime 17 = .ok (.getfield 38, 3) := by decide +kernel
theorem dX4_bestTime_20 : decode cX4_bestTime 20 = .ok (.aload_n 0, 1) := by decide +kernel
theorem dX4_bestTime_21 : decode cX4_bestTime 21 = .ok (.getfield 38, 3) := by decide +kernel
theorem dX4_bestTime_24 : decode cX4_bestTime 24 = .ok (.getfield 199, 3) := by decide +kernel
theorem dX4_bestTime_27 : decode cX4_bestTime 27 = .ok (.aload_n 0, 1) := by decide +kernel
theorem dX4_bestTime_28 : decode cX4_bestTime 28 = .ok (.getfield 38, 3) := by decide +kernel
theorem dX4_bestTime_31 : decode cX4_bestTime 31 = .ok (.getfield 203, 3) := by decide +kernel
theorem dX4_bestTime_34 : decode cX4_bestTime 34 = .ok (.invokevirtual 204, 3) := by decide +kernel
theorem dX4_bestTime_37 : decode cX4_bestTime 37 = .ok (.ireturn, 1) := by decide +kernel
set_option maxRecDepth 20000 in
theorem ggX4_bestJob_X4_driveNumbered : GoodIn wsX4_bestJob wsX4_driveNumbered := goodIn_ca (goodIn_r _ [8, 1, 2, 9, 100, 101, 102, 103, 104, 105] (by decide +kernel) (by decide +kernel)) (goodIn_sub (fun _ h => List.mem_cons_of_mem _ (List.mem_append_left _ (List.mem_append_right _ h))) (by decide +kernel))
set_option maxRecDepth 20000 in
theorem gX4_bestJob_X4_driveNumbered : GoodIn wsX4_bestJob (wsV RX4 114 RX4 yX4_driveNumbered wsX4_driveNumbered) := goodIn_app (goodIn_of _ (by decide +kernel)) ggX4_bestJob_X4_driveNumbered
set_option maxRecDepth 20000 in
theorem ggX4_bestJob_X4_measureOrders : GoodIn wsX4_bestJob wsX4_measureOrders := goodIn_ca (goodIn_r _ [13, 3, 14, 15, 16, 7, 17, 18, 19, 20, 21, 22, 23, 24, 25, 26, 27, 28, 29, 30, 31, 32, 33, 34, 35, 36, 37, 38, 39, 40, 41, 42, 43, 44, 45, 46, 47, 48, 49, 50, 51, 52, 53, 54, 55, 56, 57, 58, 59, 60, 61, 62, 63, 64, 65, 66, 67, 68, 69, 70, 71, 72, 73, 74, 75, 100, 101, 102, 103, 104, 105, 112, 113, 114, 115, 116, 117, 118, 119, 120, 121, 122, 123, 124, 125, 126, 106, 107, 108, 109, 110, 111, 127, 128, 129, 130, 131] (by decide +kernel) (by decide +kernel)) (goodIn_sub (fun _ h => List.mem_cons_of_mem _ (List.mem_append_right _ h)) (by decide +kernel))
set_option maxRecDepth 20000 in
theorem gX4_bestJob_X4_measureOrders : GoodIn wsX4_bestJob (wsV RX4 193 RX4 yX4_measureOrders wsX4_measureOrders) := goodIn_app (goodIn_of _ (by decide +kernel)) ggX4_bestJob_X4_measureOrders
set_option maxRecDepth 20000 in
theorem ggX4_bestJob_X2_findBest : GoodIn wsX4_bestJob wsX2_findBest := goodIn_r _ [78, 25, 79, 80, 81, 82, 83, 21, 84, 85, 86, 87, 88, 89, 90, 91, 92, 93, 94, 95, 96, 26, 37, 7, 38, 39, 40, 106, 107, 108, 109, 110, 111] (by decide +kernel) (by decide +kernel)
set_option maxRecDepth 20000 in
theorem gX4_bestJob_X2_findBest_n196 : GoodIn wsX4_bestJob (wsX2_findBest) := ggX4_bestJob_X2_findBest
set_option maxRecDepth 20000 in
theorem ggX4_bestJob_X2_bestJobAt : GoodIn wsX4_bestJob wsX2_bestJobAt := goodIn_r _ [99, 24, 80, 37, 7, 38, 106, 107, 108, 109, 110, 111] (by decide +kernel) (by decide +kernel)
set_option maxRecDepth 20000 in
theorem gX4_bestJob_X2_bestJobAt_n210 : GoodIn wsX4_bestJob (wsX2_bestJobAt) := ggX4_bestJob_X2_bestJobAt
theorem dX4_bestJob_0 : decode cX4_bestJob 0 = .ok (.aload_n 0, 1) := by decide +kernel
theorem dX4_bestJob_1 : decode cX4_bestJob 1 = .ok (.aload_n 0, 1) := by decide +kernel
theorem dX4_bestJob_2 : decode cX4_bestJob 2 = .ok (.iload_n 1, 1) := by decide +kernel
theorem dX4_bestJob_3 : decode cX4_bestJob 3 = .ok (.invokevirtual 114, 3) := by decide +kernel
theorem dX4_bestJob_6 : decode cX4_bestJob 6 = .ok (.invokevirtual 193, 3) := by decide +kernel
theorem dX4_bestJob_9 : decode cX4_bestJob 9 = .ok (.iload_n 2, 1) := by decide +kernel
theorem dX4_bestJob_10 : decode cX4_bestJob 10 = .ok (.ifCond .lt 14, 3) := by decide +kernel
theorem dX4_bestJob_13 : decode cX4_bestJob 13 = .ok (.iload_n 2, 1) := by decide +kernel
theorem dX4_bestJob_14 : decode cX4_bestJob 14 = .ok (.aload_n 0, 1) := by decide +kernel
theorem dX4_bestJob_15 : decode cX4_bestJob 15 = .ok (.getfield 38, 3) := by decide +kernel
theorem dX4_bestJob_18 : decode cX4_bestJob 18 = .ok (.getfield 203, 3) := by decide +kernel
theorem dX4_bestJob_21 : decode cX4_bestJob 21 = .ok (.if_icmp .lt 13, 3) := by decide +kernel
theorem dX4_bestJob_24 : decode cX4_bestJob 24 = .ok (.new 67, 3) := by decide +kernel
theorem dX4_bestJob_27 : decode cX4_bestJob 27 = .ok (.dup, 1) := by decide +kernel
theorem dX4_bestJob_28 : decode cX4_bestJob 28 = .ok (.ldc 208, 2) := by decide +kernel
theorem dX4_bestJob_30 : decode cX4_bestJob 30 = .ok (.invokespecial 71, 3) := by decide +kernel
theorem dX4_bestJob_33 : decode cX4_bestJob 33 = .ok (.athrow, 1) := by decide +kernel
theorem dX4_bestJob_34 : decode cX4_bestJob 34 = .ok (.aload_n 0, 1) := by decide +kernel
theorem dX4_bestJob_35 : decode cX4_bestJob 35 = .ok (.getfield 38, 3) := by decide +kernel
theorem dX4_bestJob_38 : decode cX4_bestJob 38 = .ok (.invokevirtual 196, 3) := by decide +kernel
theorem dX4_bestJob_41 : decode cX4_bestJob 41 = .ok (.aload_n 0, 1) := by decide +kernel
theorem dX4_bestJob_42 : decode cX4_bestJob 42 = .ok (.getfield 38, 3) := by decide +kernel
theorem dX4_bestJob_45 : decode cX4_bestJob 45 = .ok (.iload_n 2, 1) := by decide +kernel
theorem dX4_bestJob_46 : decode cX4_bestJob 46 = .ok (.invokevirtual 210, 3) := by decide +kernel
theorem dX4_bestJob_49 : decode cX4_bestJob 49 = .ok (.ireturn, 1) := by decide +kernel
set_option maxRecDepth 20000 in
theorem ggX4_insertedTime_X4_driveNumbered : GoodIn wsX4_insertedTime wsX4_driveNumbered := goodIn_ca (goodIn_r _ [6, 7, 8, 9, 96, 97, 98, 99, 100, 101] (by decide +kernel) (by decide +kernel)) (goodIn_sub (fun _ h => List.mem_cons_of_mem _ (List.mem_append_left _ (List.mem_append_right _ h))) (by decide +kernel))
set_option maxRecDepth 20000 in
theorem gX4_insertedTime_X4_driveNumbered : GoodIn wsX4_insertedTime (wsV RX4 114 RX4 yX4_driveNumbered wsX4_driveNumbered) := goodIn_app (goodIn_of _ (by decide +kernel)) ggX4_insertedTime_X4_driveNumbered
set_option maxRecDepth 20000 in
theorem ggX4_insertedTime_X4_measureOrders : GoodIn wsX4_insertedTime wsX4_measureOrders := goodIn_ca (goodIn_r _ [13, 1, 14, 15, 16, 5, 17, 18, 19, 20, 21, 22, 23, 24, 25, 26, 27, 28, 29, 30, 31, 32, 33, 34, 35, 36, 37, 38, 39, 40, 41, 42, 43, 44, 45, 46, 47, 48, 49, 50, 51, 52, 53, 54, 55, 56, 57, 58, 59, 60, 61, 62, 63, 64, 65, 66, 67, 68, 69, 70, 71, 72, 73, 74, 75, 96, 97, 98, 99, 100, 101, 102, 103, 104, 105, 106, 107, 108, 109, 110, 111, 112, 113, 114, 115, 116, 117, 118, 119, 120, 121, 122, 123, 124, 125, 126, 127] (by decide +kernel) (by decide +kernel)) (goodIn_sub (fun _ h => List.mem_cons_of_mem _ (List.mem_append_right _ h)) (by decide +kernel))
set_option maxRecDepth 20000 in
theorem gX4_insertedTime_X4_measureOrders : GoodIn wsX4_insertedTime (wsV RX4 193 RX4 yX4_measureOrders wsX4_measureOrders) := goodIn_app (goodIn_of _ (by decide +kernel)) ggX4_insertedTime_X4_measureOrders
set_option maxRecDepth 20000 in
theorem ggX4_insertedTime_X2_timeByInsertion : GoodIn wsX4_insertedTime wsX2_timeByInsertion := goodIn_r _ [78, 25, 79, 80, 81, 82, 21, 83, 39, 5, 40, 84, 85, 86, 87, 37, 38, 88, 89, 90, 91, 26, 92, 93, 94, 95, 117, 118, 119, 120, 121, 122] (by decide +kernel) (by decide +kernel)
set_option maxRecDepth 20000 in
theorem gX4_insertedTime_X2_timeByInsertion_n213 : GoodIn wsX4_insertedTime (wsX2_timeByInsertion) := ggX4_insertedTime_X2_timeByInsertion
theorem dX4_insertedTime_0 : decode cX4_insertedTime 0 = .ok (.aload_n 0, 1) := by decide +kernel
theorem dX4_insertedTime_1 : decode cX4_insertedTime 1 = .ok (.aload_n 0, 1) := by decide +kernel
theorem dX4_insertedTime_2 : decode cX4_insertedTime 2 = .ok (.iload_n 1, 1) := by decide +kernel
theorem dX4_insertedTime_3 : decode cX4_insertedTime 3 = .ok (.invokevirtual 114, 3) := by decide +kernel
theorem dX4_insertedTime_6 : decode cX4_insertedTime 6 = .ok (.invokevirtual 193, 3) := by decide +kernel
theorem dX4_insertedTime_9 : decode cX4_insertedTime 9 = .ok (.aload_n 0, 1) := by decide +kernel
theorem dX4_insertedTime_10 : decode cX4_insertedTime 10 = .ok (.getfield 38, 3) := by decide +kernel
theorem dX4_insertedTime_13 : decode cX4_insertedTime 13 = .ok (.invokevirtual 213, 3) := by decide +kernel
theorem dX4_insertedTime_16 : decode cX4_insertedTime 16 = .ok (.ireturn, 1) := by decide +kernel
set_option maxRecDepth 20000 in
theorem ggX4_triedTime_X4_driveNumbered : GoodIn wsX4_triedTime wsX4_driveNumbered := goodIn_ca (goodIn_r _ [6, 7, 8, 9, 97, 98, 99, 100, 101, 102] (by decide +kernel) (by decide +kernel)) (goodIn_sub (fun _ h => List.mem_cons_of_mem _ (List.mem_append_left _ (List.mem_append_right _ h))) (by decide +kernel))
set_option maxRecDepth 20000 in
theorem gX4_triedTime_X4_driveNumbered : GoodIn wsX4_triedTime (wsV RX4 114 RX4 yX4_driveNumbered wsX4_driveNumbered) := goodIn_app (goodIn_of _ (by decide +kernel)) ggX4_triedTime_X4_driveNumbered
set_option maxRecDepth 20000 in
theorem ggX4_triedTime_X4_measureOrders : GoodIn wsX4_triedTime wsX4_measureOrders := goodIn_ca (goodIn_r _ [13, 1, 14, 15, 16, 5, 17, 18, 19, 20, 21, 22, 23, 24, 25, 26, 27, 28, 29, 30, 31, 32, 33, 34, 35, 36, 37, 38, 39, 40, 41, 42, 43, 44, 45, 46, 47, 48, 49, 50, 51, 52, 53, 54, 55, 56, 57, 58, 59, 60, 61, 62, 63, 64, 65, 66, 67, 68, 69, 70, 71, 72, 73, 74, 75, 97, 98, 99, 100, 101, 102, 103, 104, 105, 106, 107, 108, 109, 110, 111, 112, 113, 114, 115, 116, 117, 118, 119, 120, 121, 122, 123, 124, 125, 126, 127, 128] (by decide +kernel) (by decide +kernel)) (goodIn_sub (fun _ h => List.mem_cons_of_mem _ (List.mem_append_right _ h)) (by decide +kernel))
set_option maxRecDepth 20000 in
theorem gX4_triedTime_X4_measureOrders : GoodIn wsX4_triedTime (wsV RX4 193 RX4 yX4_measureOrders wsX4_measureOrders) := goodIn_app (goodIn_of _ (by decide +kernel)) ggX4_triedTime_X4_measureOrders
set_option maxRecDepth 20000 in
theorem ggX4_triedTime_X2_timeByTrying : GoodIn wsX4_triedTime wsX2_timeByTrying := goodIn_r _ [78, 25, 79, 80, 34, 35, 36, 39, 5, 40, 81, 82, 83, 21, 84, 37, 38, 85, 86, 87, 88, 26, 89, 90, 91, 92, 93, 94, 95, 96, 118, 119, 120, 121, 122, 123] (by decide +kernel) (by decide +kernel)
set_option maxRecDepth 20000 in
theorem gX4_triedTime_X2_timeByTrying_n216 : GoodIn wsX4_triedTime (wsX2_timeByTrying) := ggX4_triedTime_X2_timeByTrying
theorem dX4_triedTime_0 : decode cX4_triedTime 0 = .ok (.aload_n 0, 1) := by decide +kernel
theorem dX4_triedTime_1 : decode cX4_triedTime 1 = .ok (.aload_n 0, 1) := by decide +kernel
theorem dX4_triedTime_2 : decode cX4_triedTime 2 = .ok (.iload_n 1, 1) := by decide +kernel
theorem dX4_triedTime_3 : decode cX4_triedTime 3 = .ok (.invokevirtual 114, 3) := by decide +kernel
theorem dX4_triedTime_6 : decode cX4_triedTime 6 = .ok (.invokevirtual 193, 3) := by decide +kernel
theorem dX4_triedTime_9 : decode cX4_triedTime 9 = .ok (.aload_n 0, 1) := by decide +kernel
theorem dX4_triedTime_10 : decode cX4_triedTime 10 = .ok (.getfield 38, 3) := by decide +kernel
theorem dX4_triedTime_13 : decode cX4_triedTime 13 = .ok (.invokevirtual 216, 3) := by decide +kernel
theorem dX4_triedTime_16 : decode cX4_triedTime 16 = .ok (.ireturn, 1) := by decide +kernel
set_option maxRecDepth 20000 in
theorem ggX4_work_X4_driveNumbered : GoodIn wsX4_work wsX4_driveNumbered := goodIn_ca (goodIn_r _ [7, 8, 9, 10, 125, 126, 127, 128, 129, 130] (by decide +kernel) (by decide +kernel)) (goodIn_sub (fun _ h => List.mem_cons_of_mem _ (List.mem_append_left _ (List.mem_append_right _ h))) (by decide +kernel))
set_option maxRecDepth 20000 in
theorem gX4_work_X4_driveNumbered : GoodIn wsX4_work (wsV RX4 114 RX4 yX4_driveNumbered wsX4_driveNumbered) := goodIn_app (goodIn_of _ (by decide +kernel)) ggX4_work_X4_driveNumbered
set_option maxRecDepth 20000 in
theorem ggX4_work_X4_mountedIn : GoodIn wsX4_work wsX4_mountedIn := goodIn_ca (goodIn_r _ [13, 14, 15, 137, 138, 139, 140, 141, 142, 143] (by decide +kernel) (by decide +kernel)) (goodIn_sub (fun _ h => List.mem_cons_of_mem _ (List.mem_append_right _ h)) (by decide +kernel))
set_option maxRecDepth 20000 in
theorem gX4_work_X4_mountedIn : GoodIn wsX4_work (va_wsS RX4 140 yX4_mountedIn wsX4_mountedIn) := goodIn_app (goodIn_of _ (by decide +kernel)) ggX4_work_X4_mountedIn
set_option maxRecDepth 20000 in
theorem ggX4_work_X4_refuseUnclean : GoodIn wsX4_work wsX4_refuseUnclean := goodIn_ca (goodIn_r _ [18, 14, 15, 19, 20, 21, 22, 23, 137, 138, 139, 140, 141, 142, 143] (by decide +kernel) (by decide +kernel)) (goodIn_sub (fun _ h => List.mem_cons_of_mem _ (List.mem_append_right _ h)) (by decide +kernel))
set_option maxRecDepth 20000 in
theorem gX4_work_X4_refuseUnclean : GoodIn wsX4_work (va_wsS RX4 150 yX4_refuseUnclean wsX4_refuseUnclean) := goodIn_app (goodIn_of _ (by decide +kernel)) ggX4_work_X4_refuseUnclean
set_option maxRecDepth 20000 in
theorem ggX4_work_X4_measureOrders : GoodIn wsX4_work wsX4_measureOrders := goodIn_ca (goodIn_r _ [27, 1, 2, 11, 12, 6, 13, 14, 15, 28, 29, 30, 31, 32, 33, 34, 35, 36, 37, 38, 39, 40, 41, 42, 43, 44, 45, 46, 47, 48, 49, 50, 51, 52, 53, 20, 54, 55, 56, 57, 58, 59, 60, 61, 62, 63, 64, 65, 66, 67, 68, 69, 70, 71, 72, 73, 74, 75, 76, 77, 78, 79, 80, 81, 82, 125, 126, 127, 128, 129, 130, 137, 138, 139, 140, 141, 142, 143, 144, 145, 146, 147, 148, 149, 150, 151, 131, 132, 133, 134, 135, 136, 152, 153, 154, 155, 156] (by decide +kernel) (by decide +kernel)) (goodIn_sub (fun _ h => List.mem_cons_of_mem _ (List.mem_append_right _ h)) (by decide +kernel))
set_option maxRecDepth 20000 in
theorem gX4_work_X4_measureOrders : GoodIn wsX4_work (wsV RX4 193 RX4 yX4_measureOrders wsX4_measureOrders) := goodIn_app (goodIn_of _ (by decide +kernel)) ggX4_work_X4_measureOrders
set_option maxRecDepth 20000 in
theorem ggX4_work_X2_findBest : GoodIn wsX4_work wsX2_findBest := goodIn_r _ [85, 33, 86, 87, 88, 89, 90, 29, 91, 92, 93, 94, 95, 96, 97, 98, 99, 100, 101, 102, 103, 34, 45, 6, 46, 47, 48, 131, 132, 133, 134, 135, 136] (by decide +kernel) (by decide +kernel)
set_option maxRecDepth 20000 in
theorem gX4_work_X2_findBest_n196 : GoodIn wsX4_work (wsX2_findBest) := ggX4_work_X2_findBest
set_option maxRecDepth 20000 in
theorem ggX4_work_X0_wantsCleaning : GoodIn wsX4_work wsX0_wantsCleaning := goodIn_r _ [22, 23, 137, 138, 139, 140, 141, 142, 143] (by decide +kernel) (by decide +kernel)
set_option maxRecDepth 20000 in
theorem gX4_work_X0_wantsCleaning_n219 : GoodIn wsX4_work (wsX0_wantsCleaning) := ggX4_work_X0_wantsCleaning
set_option maxRecDepth 20000 in
theorem ggX4_work_X2_bestJobAt : GoodIn wsX4_work wsX2_bestJobAt := goodIn_r _ [106, 32, 87, 45, 6, 46, 131, 132, 133, 134, 135, 136] (by decide +kernel) (by decide +kernel)
set_option maxRecDepth 20000 in
theorem gX4_work_X2_bestJobAt_n210 : GoodIn wsX4_work (wsX2_bestJobAt) := ggX4_work_X2_bestJobAt
set_option maxRecDepth 20000 in
theorem ggX4_work_X1_fileOf : GoodIn wsX4_work wsX1_fileOf := goodIn_r _ [51, 52, 45, 6, 46, 152, 153, 154, 155, 156] (by decide +kernel) (by decide +kernel)
set_option maxRecDepth 20000 in
theorem gX4_work_X1_fileOf_n222 : GoodIn wsX4_work (wsX1_fileOf) := ggX4_work_X1_fileOf
set_option maxRecDepth 20000 in
theorem ggX4_work_X0_passFile : GoodIn wsX4_work wsX0_passFile := goodIn_r _ [109, 110, 23, 111, 53, 54, 20, 55, 56, 57, 58, 59, 60, 45, 6, 46, 61, 62, 63, 64, 65, 66, 43, 67, 68, 69, 70, 71, 72, 73, 74, 42, 44, 75, 76, 77, 78, 79, 80, 81, 82, 112, 113, 114, 115, 116, 137, 138, 139, 140, 141, 142, 143, 144, 145, 146, 147, 148, 149, 150, 151] (by decide +kernel) (by decide +kernel)
set_option maxRecDepth 20000 in
theorem gX4_work_X0_passFile_n162 : GoodIn wsX4_work (wsX0_passFile) := ggX4_work_X0_passFile
set_option maxRecDepth 20000 in
theorem ggX4_work_X1_finish : GoodIn wsX4_work wsX1_finish := goodIn_r _ [119, 40, 120, 47, 6, 48, 152, 153, 154, 155, 156] (by decide +kernel) (by decide +kernel)
set_option maxRecDepth 20000 in
theorem gX4_work_X1_finish_n225 : GoodIn wsX4_work (wsX1_finish) := ggX4_work_X1_finish
set_option maxRecDepth 20000 in
theorem ggX4_work_X1_deadlineOf : GoodIn wsX4_work wsX1_deadlineOf := goodIn_r _ [123, 124, 45, 6, 46, 152, 153, 154, 155, 156] (by decide +kernel) (by decide +kernel)
set_option maxRecDepth 20000 in
theorem gX4_work_X1_deadlineOf_n229 : GoodIn wsX4_work (wsX1_deadlineOf) := ggX4_work_X1_deadlineOf
theorem dX4_work_0 : decode cX4_work 0 = .ok (.aload_n 0, 1) := by decide +kernel
theorem dX4_work_1 : decode cX4_work 1 = .ok (.iload_n 1, 1) := by decide +kernel
theorem dX4_work_2 : decode cX4_work 2 = .ok (.invokevirtual 114, 3) := by decide +kernel
theorem dX4_work_5 : decode cX4_work 5 = .ok (.astore_n 2, 1) := by decide +kernel
theorem dX4_work_6 : decode cX4_work 6 = .ok (.aload_n 2, 1) := by decide +kernel
theorem dX4_work_7 : decode cX4_work 7 = .ok (.invokestatic 140, 3) := by decide +kernel
theorem dX4_work_10 : decode cX4_work 10 = .ok (.astore_n 3, 1) := by decide +kernel
theorem dX4_work_11 : decode cX4_work 11 = .ok (.aload_n 2, 1) := by decide +kernel
theorem dX4_work_12 : decode cX4_work 12 = .ok (.invokestatic 150, 3) := by decide +kernel
theorem dX4_work_15 : decode cX4_work 15 = .ok (.aload_n 0, 1) := by decide +kernel
theorem dX4_work_16 : decode cX4_work 16 = .ok (.aload_n 2, 1) := by decide +kernel
theorem dX4_work_17 : decode cX4_work 17 = .ok (.invokevirtual 193, 3) := by decide +kernel
theorem dX4_work_20 : decode cX4_work 20 = .ok (.aload_n 0, 1) := by decide +kernel
theorem dX4_work_21 : decode cX4_work 21 = .ok (.getfield 38, 3) := by decide +kernel
theorem dX4_work_24 : decode cX4_work 24 = .ok (.invokevirtual 196, 3) := by decide +kernel
theorem dX4_work_27 : decode cX4_work 27 = .ok (.iconst 0, 1) := by decide +kernel
theorem dX4_work_28 : decode cX4_work 28 = .ok (.istore 4, 2) := by decide +kernel
theorem dX4_work_30 : decode cX4_work 30 = .ok (.iconst 0, 1) := by decide +kernel
theorem dX4_work_31 : decode cX4_work 31 = .ok (.istore 5, 2) := by decide +kernel
theorem dX4_work_33 : decode cX4_work 33 = .ok (.iload 5, 2) := by decide +kernel
theorem dX4_work_35 : decode cX4_work 35 = .ok (.aload_n 0, 1) := by decide +kernel
theorem dX4_work_36 : decode cX4_work 36 = .ok (.getfield 38, 3) := by decide +kernel
theorem dX4_work_39 : decode cX4_work 39 = .ok (.getfield 203, 3) := by decide +kernel
theorem dX4_work_42 : decode cX4_work 42 = .ok (.if_icmp .ge 70, 3) := by decide +kernel
theorem dX4_work_45 : decode cX4_work 45 = .ok (.aload_n 2, 1) := by decide +kernel
theorem dX4_work_46 : decode cX4_work 46 = .ok (.invokevirtual 219, 3) := by decide +kernel
theorem dX4_work_49 : decode cX4_work 49 = .ok (.ifCond .ne 63, 3) := by decide +kernel
theorem dX4_work_52 : decode cX4_work 52 = .ok (.aload_n 0, 1) := by decide +kernel
theorem dX4_work_53 : decode cX4_work 53 = .ok (.getfield 38, 3) := by decide +kernel
theorem dX4_work_56 : decode cX4_work 56 = .ok (.iload 5, 2) := by decide +kernel
theorem dX4_work_58 : decode cX4_work 58 = .ok (.invokevirtual 210, 3) := by decide +kernel
theorem dX4_work_61 : decode cX4_work 61 = .ok (.istore 6, 2) := by decide +kernel
theorem dX4_work_63 : decode cX4_work 63 = .ok (.aload_n 2, 1) := by decide +kernel
theorem dX4_work_64 : decode cX4_work 64 = .ok (.aload_n 3, 1) := by decide +kernel
theorem dX4_work_65 : decode cX4_work 65 = .ok (.aload_n 0, 1) := by decide +kernel
theorem dX4_work_66 : decode cX4_work 66 = .ok (.getfield 31, 3) := by decide +kernel
theorem dX4_work_69 : decode cX4_work 69 = .ok (.iload 6, 2) := by decide +kernel
theorem dX4_work_71 : decode cX4_work 71 = .ok (.invokevirtual 222, 3) := by decide +kernel
theorem dX4_work_74 : decode cX4_work 74 = .ok (.invokevirtual 162, 3) := by decide +kernel
theorem dX4_work_77 : decode cX4_work 77 = .ok (.pop, 1) := by decide +kernel
theorem dX4_work_78 : decode cX4_work 78 = .ok (.aload_n 0, 1) := by decide +kernel
theorem dX4_work_79 : decode cX4_work 79 = .ok (.getfield 31, 3) := by decide +kernel
theorem dX4_work_82 : decode cX4_work 82 = .ok (.iload 6, 2) := by decide +kernel
theorem dX4_work_84 : decode cX4_work 84 = .ok (.invokevirtual 225, 3) := by decide +kernel
theorem dX4_work_87 : decode cX4_work 87 = .ok (.aload_n 2, 1) := by decide +kernel
theorem dX4_work_88 : decode cX4_work 88 = .ok (.getfield 171, 3) := by decide +kernel
theorem dX4_work_91 : decode cX4_work 91 = .ok (.aload_n 0, 1) := by decide +kernel
theorem dX4_work_92 : decode cX4_work 92 = .ok (.getfield 31, 3) := by decide +kernel
theorem dX4_work_95 : decode cX4_work 95 = .ok (.iload 6, 2) := by decide +kernel
theorem dX4_work_97 : decode cX4_work 97 = .ok (.invokevirtual 229, 3) := by decide +kernel
theorem dX4_work_100 : decode cX4_work 100 = .ok (.if_icmp .le 6, 3) := by decide +kernel
theorem dX4_work_103 : decode cX4_work 103 = .ok (.iinc 4 1, 3) := by decide +kernel
theorem dX4_work_106 : decode cX4_work 106 = .ok (.iinc 5 1, 3) := by decide +kernel
theorem dX4_work_109 : decode cX4_work 109 = .ok (.goto (-76), 3) := by decide +kernel
theorem dX4_work_112 : decode cX4_work 112 = .ok (.iload 4, 2) := by decide +kernel
theorem dX4_work_114 : decode cX4_work 114 = .ok (.ireturn, 1) := by decide +kernel
theorem dX4_done_0 : decode cX4_done 0 = .ok (.aload_n 0, 1) := by decide +kernel
theorem dX4_done_1 : decode cX4_done 1 = .ok (.getfield 31, 3) := by decide +kernel
theorem dX4_done_4 : decode cX4_done 4 = .ok (.getfield 232, 3) := by decide +kernel
theorem dX4_done_7 : decode cX4_done 7 = .ok (.ireturn, 1) := by decide +kernel
set_option maxRecDepth 20000 in
theorem ggX4_lose_X4_tapeNumbered : GoodIn wsX4_lose wsX4_tapeNumbered := goodIn_ca (goodIn_r _ [7, 8, 9, 10, 28, 29, 30, 31, 32, 33] (by decide +kernel) (by decide +kernel)) (goodIn_sub (fun _ h => List.mem_cons_of_mem _ (List.mem_append_right _ h)) (by decide +kernel))
set_option maxRecDepth 20000 in
theorem gX4_lose_X4_tapeNumbered : GoodIn wsX4_lose (wsV RX4 63 RX4 yX4_tapeNumbered wsX4_tapeNumbered) := goodIn_app (goodIn_of _ (by decide +kernel)) ggX4_lose_X4_tapeNumbered
set_option maxRecDepth 20000 in
theorem ggX4_lose_X3_isInDrive : GoodIn wsX4_lose wsX3_isInDrive := goodIn_r _ [14, 15, 20, 21, 22, 23, 24, 25, 26, 27] (by decide +kernel) (by decide +kernel)
set_option maxRecDepth 20000 in
theorem gX4_lose_X3_isInDrive_n72 : GoodIn wsX4_lose (wsX3_isInDrive) := ggX4_lose_X3_isInDrive
set_option maxRecDepth 20000 in
theorem ggX4_lose_X4_countWithoutLabels : GoodIn wsX4_lose wsX4_countWithoutLabels := goodIn_r _ [19, 10, 28, 29, 30, 31, 32, 33, 20, 21, 22, 23, 24, 25, 26, 27] (by decide +kernel) (by decide +kernel)
set_option maxRecDepth 20000 in
theorem gX4_lose_X4_countWithoutLabels : GoodIn wsX4_lose (wsV RX4 237 RX4 yX4_countWithoutLabels wsX4_countWithoutLabels) := goodIn_app (goodIn_of _ (by decide +kernel)) ggX4_lose_X4_countWithoutLabels
theorem dX4_lose_0 : decode cX4_lose 0 = .ok (.aload_n 0, 1) := by decide +kernel
theorem dX4_lose_1 : decode cX4_lose 1 = .ok (.iload_n 1, 1) := by decide +kernel
theorem dX4_lose_2 : decode cX4_lose 2 = .ok (.invokevirtual 63, 3) := by decide +kernel
theorem dX4_lose_5 : decode cX4_lose 5 = .ok (.astore_n 2, 1) := by decide +kernel
theorem dX4_lose_6 : decode cX4_lose 6 = .ok (.aload_n 2, 1) := by decide +kernel
theorem dX4_lose_7 : decode cX4_lose 7 = .ok (.invokevirtual 72, 3) := by decide +kernel
theorem dX4_lose_10 : decode cX4_lose 10 = .ok (.ifCond .ne 10, 3) := by decide +kernel
theorem dX4_lose_13 : decode cX4_lose 13 = .ok (.aload_n 2, 1) := by decide +kernel
theorem dX4_lose_14 : decode cX4_lose 14 = .ok (.getfield 122, 3) := by decide +kernel
theorem dX4_lose_17 : decode cX4_lose 17 = .ok (.ifCond .ne 13, 3) := by decide +kernel
theorem dX4_lose_20 : decode cX4_lose 20 = .ok (.new 51, 3) := by decide +kernel
theorem dX4_lose_23 : decode cX4_lose 23 = .ok (.dup, 1) := by decide +kernel
theorem dX4_lose_24 : decode cX4_lose 24 = .ok (.ldc 235, 2) := by decide +kernel
theorem dX4_lose_26 : decode cX4_lose 26 = .ok (.invokespecial 55, 3) := by decide +kernel
theorem dX4_lose_29 : decode cX4_lose 29 = .ok (.athrow, 1) := by decide +kernel
theorem dX4_lose_30 : decode cX4_lose 30 = .ok (.aload_n 2, 1) := by decide +kernel
theorem dX4_lose_31 : decode cX4_lose 31 = .ok (.iconst 0, 1) := by decide +kernel
theorem dX4_lose_32 : decode cX4_lose 32 = .ok (.putfield 122, 3) := by decide +kernel
theorem dX4_lose_35 : decode cX4_lose 35 = .ok (.aload_n 0, 1) := by decide +kernel
theorem dX4_lose_36 : decode cX4_lose 36 = .ok (.invokevirtual 237, 3) := by decide +kernel
theorem dX4_lose_39 : decode cX4_lose 39 = .ok (.ireturn, 1) := by decide +kernel
set_option maxRecDepth 20000 in
theorem ggX4_inventory_X4_countWithoutLabels : GoodIn wsX4_inventory wsX4_countWithoutLabels := goodIn_r _ [6, 1, 20, 21, 22, 23, 24, 25, 26, 27, 28, 29, 30, 31, 32, 33] (by decide +kernel) (by decide +kernel)
set_option maxRecDepth 20000 in
theorem gX4_inventory_X4_countWithoutLabels : GoodIn wsX4_inventory (wsV RX4 237 RX4 yX4_countWithoutLabels wsX4_countWithoutLabels) := goodIn_app (goodIn_of _ (by decide +kernel)) ggX4_inventory_X4_countWithoutLabels
set_option maxRecDepth 20000 in
theorem ggX4_inventory_X4_highestSlotWithTape : GoodIn wsX4_inventory wsX4_highestSlotWithTape := goodIn_r _ [10, 1, 11, 12, 13, 14, 15, 16, 17, 18, 19, 20, 21, 22, 23, 24, 25, 26, 27, 28, 29, 30, 31, 32, 33] (by decide +kernel) (by decide +kernel)
set_option maxRecDepth 20000 in
theorem gX4_inventory_X4_highestSlotWithTape : GoodIn wsX4_inventory (wsV RX4 240 RX4 yX4_highestSlotWithTape wsX4_highestSlotWithTape) := goodIn_app (goodIn_of _ (by decide +kernel)) ggX4_inventory_X4_highestSlotWithTape
theorem dX4_inventory_0 : decode cX4_inventory 0 = .ok (.iconst 5, 1) := by decide +kernel
theorem dX4_inventory_1 : decode cX4_inventory 1 = .ok (.aload_n 0, 1) := by decide +kernel
theorem dX4_inventory_2 : decode cX4_inventory 2 = .ok (.invokevirtual 237, 3) := by decide +kernel
theorem dX4_inventory_5 : decode cX4_inventory 5 = .ok (.imul, 1) := by decide +kernel
theorem dX4_inventory_6 : decode cX4_inventory 6 = .ok (.iconst 2, 1) := by decide +kernel
theorem dX4_inventory_7 : decode cX4_inventory 7 = .ok (.aload_n 0, 1) := by decide +kernel
theorem dX4_inventory_8 : decode cX4_inventory 8 = .ok (.invokevirtual 240, 3) := by decide +kernel
theorem dX4_inventory_11 : decode cX4_inventory 11 = .ok (.imul, 1) := by decide +kernel
theorem dX4_inventory_12 : decode cX4_inventory 12 = .ok (.iadd, 1) := by decide +kernel
theorem dX4_inventory_13 : decode cX4_inventory 13 = .ok (.istore_n 1, 1) := by decide +kernel
theorem dX4_inventory_14 : decode cX4_inventory 14 = .ok (.aload_n 0, 1) := by decide +kernel
theorem dX4_inventory_15 : decode cX4_inventory 15 = .ok (.getfield 11, 3) := by decide +kernel
theorem dX4_inventory_18 : decode cX4_inventory 18 = .ok (.astore_n 2, 1) := by decide +kernel
theorem dX4_inventory_19 : decode cX4_inventory 19 = .ok (.aload_n 2, 1) := by decide +kernel
theorem dX4_inventory_20 : decode cX4_inventory 20 = .ok (.arraylength, 1) := by decide +kernel
theorem dX4_inventory_21 : decode cX4_inventory 21 = .ok (.istore_n 3, 1) := by decide +kernel
theorem dX4_inventory_22 : decode cX4_inventory 22 = .ok (.iconst 0, 1) := by decide +kernel
theorem dX4_inventory_23 : decode cX4_inventory 23 = .ok (.istore 4, 2) := by decide +kernel
theorem dX4_inventory_25 : decode cX4_inventory 25 = .ok (.iload 4, 2) := by decide +kernel
theorem dX4_inventory_27 : decode cX4_inventory 27 = .ok (.iload_n 3, 1) := by decide +kernel
theorem dX4_inventory_28 : decode cX4_inventory 28 = .ok (.if_icmp .ge 26, 3) := by decide +kernel
theorem dX4_inventory_31 : decode cX4_inventory 31 = .ok (.aload_n 2, 1) := by decide +kernel
theorem dX4_inventory_32 : decode cX4_inventory 32 = .ok (.iload 4, 2) := by decide +kernel
theorem dX4_inventory_34 : decode cX4_inventory 34 = .ok (.aaload, 1) := by decide +kernel
theorem dX4_inventory_35 : decode cX4_inventory 35 = .ok (.astore 5, 2) := by decide +kernel
theorem dX4_inventory_37 : decode cX4_inventory 37 = .ok (.aload 5, 2) := by decide +kernel
theorem dX4_inventory_39 : decode cX4_inventory 39 = .ok (.ifnull 9, 3) := by decide +kernel
theorem dX4_inventory_42 : decode cX4_inventory 42 = .ok (.aload 5, 2) := by decide +kernel
theorem dX4_inventory_44 : decode cX4_inventory 44 = .ok (.iconst 1, 1) := by decide +kernel
theorem dX4_inventory_45 : decode cX4_inventory 45 = .ok (.putfield 122, 3) := by decide +kernel
theorem dX4_inventory_48 : decode cX4_inventory 48 = .ok (.iinc 4 1, 3) := by decide +kernel
theorem dX4_inventory_51 : decode cX4_inventory 51 = .ok (.goto (-26), 3) := by decide +kernel
theorem dX4_inventory_54 : decode cX4_inventory 54 = .ok (.iload_n 1, 1) := by decide +kernel
theorem dX4_inventory_55 : decode cX4_inventory 55 = .ok (.ireturn, 1) := by decide +kernel
theorem dX4_tapeNumbered_0 : decode cX4_tapeNumbered 0 = .ok (.iload_n 1, 1) := by decide +kernel
theorem dX4_tapeNumbered_1 : decode cX4_tapeNumbered 1 = .ok (.ifCond .lt 21, 3) := by decide +kernel
theorem dX4_tapeNumbered_4 : decode cX4_tapeNumbered 4 = .ok (.iload_n 1, 1) := by decide +kernel
theorem dX4_tapeNumbered_5 : decode cX4_tapeNumbered 5 = .ok (.aload_n 0, 1) := by decide +kernel
theorem dX4_tapeNumbered_6 : decode cX4_tapeNumbered 6 = .ok (.getfield 11, 3) := by decide +kernel
theorem dX4_tapeNumbered_9 : decode cX4_tapeNumbered 9 = .ok (.arraylength, 1) := by decide +kernel
theorem dX4_tapeNumbered_10 : decode cX4_tapeNumbered 10 = .ok (.if_icmp .ge 12, 3) := by decide +kernel
theorem dX4_tapeNumbered_13 : decode cX4_tapeNumbered 13 = .ok (.aload_n 0, 1) := by decide +kernel
theorem dX4_tapeNumbered_14 : decode cX4_tapeNumbered 14 = .ok (.getfield 11, 3) := by decide +kernel
theorem dX4_tapeNumbered_17 : decode cX4_tapeNumbered 17 = .ok (.iload_n 1, 1) := by decide +kernel
theorem dX4_tapeNumbered_18 : decode cX4_tapeNumbered 18 = .ok (.aaload, 1) := by decide +kernel
theorem dX4_tapeNumbered_19 : decode cX4_tapeNumbered 19 = .ok (.goto 4, 3) := by decide +kernel
theorem dX4_tapeNumbered_22 : decode cX4_tapeNumbered 22 = .ok (.aconst_null, 1) := by decide +kernel
theorem dX4_tapeNumbered_23 : decode cX4_tapeNumbered 23 = .ok (.astore_n 2, 1) := by decide +kernel
theorem dX4_tapeNumbered_24 : decode cX4_tapeNumbered 24 = .ok (.aload_n 2, 1) := by decide +kernel
theorem dX4_tapeNumbered_25 : decode cX4_tapeNumbered 25 = .ok (.ifnonnull 13, 3) := by decide +kernel
theorem dX4_tapeNumbered_28 : decode cX4_tapeNumbered 28 = .ok (.new 67, 3) := by decide +kernel
theorem dX4_tapeNumbered_31 : decode cX4_tapeNumbered 31 = .ok (.dup, 1) := by decide +kernel
theorem dX4_tapeNumbered_32 : decode cX4_tapeNumbered 32 = .ok (.ldc 243, 2) := by decide +kernel
theorem dX4_tapeNumbered_34 : decode cX4_tapeNumbered 34 = .ok (.invokespecial 71, 3) := by decide +kernel
theorem dX4_tapeNumbered_37 : decode cX4_tapeNumbered 37 = .ok (.athrow, 1) := by decide +kernel
theorem dX4_tapeNumbered_38 : decode cX4_tapeNumbered 38 = .ok (.aload_n 2, 1) := by decide +kernel
theorem dX4_tapeNumbered_39 : decode cX4_tapeNumbered 39 = .ok (.areturn, 1) := by decide +kernel
theorem dX4_driveNumbered_0 : decode cX4_driveNumbered 0 = .ok (.iload_n 1, 1) := by decide +kernel
theorem dX4_driveNumbered_1 : decode cX4_driveNumbered 1 = .ok (.ifCond .lt 21, 3) := by decide +kernel
theorem dX4_driveNumbered_4 : decode cX4_driveNumbered 4 = .ok (.iload_n 1, 1) := by decide +kernel
theorem dX4_driveNumbered_5 : decode cX4_driveNumbered 5 = .ok (.aload_n 0, 1) := by decide +kernel
theorem dX4_driveNumbered_6 : decode cX4_driveNumbered 6 = .ok (.getfield 21, 3) := by decide +kernel
theorem dX4_driveNumbered_9 : decode cX4_driveNumbered 9 = .ok (.arraylength, 1) := by decide +kernel
theorem dX4_driveNumbered_10 : decode cX4_driveNumbered 10 = .ok (.if_icmp .ge 12, 3) := by decide +kernel
theorem dX4_driveNumbered_13 : decode cX4_driveNumbered 13 = .ok (.aload_n 0, 1) := by decide +kernel
theorem dX4_driveNumbered_14 : decode cX4_driveNumbered 14 = .ok (.getfield 21, 3) := by decide +kernel
theorem dX4_driveNumbered_17 : decode cX4_driveNumbered 17 = .ok (.iload_n 1, 1) := by decide +kernel
theorem dX4_driveNumbered_18 : decode cX4_driveNumbered 18 = .ok (.aaload, 1) := by decide +kernel
theorem dX4_driveNumbered_19 : decode cX4_driveNumbered 19 = .ok (.goto 4, 3) := by decide +kernel
theorem dX4_driveNumbered_22 : decode cX4_driveNumbered 22 = .ok (.aconst_null, 1) := by decide +kernel
theorem dX4_driveNumbered_23 : decode cX4_driveNumbered 23 = .ok (.astore_n 2, 1) := by decide +kernel
theorem dX4_driveNumbered_24 : decode cX4_driveNumbered 24 = .ok (.aload_n 2, 1) := by decide +kernel
theorem dX4_driveNumbered_25 : decode cX4_driveNumbered 25 = .ok (.ifnonnull 13, 3) := by decide +kernel
theorem dX4_driveNumbered_28 : decode cX4_driveNumbered 28 = .ok (.new 67, 3) := by decide +kernel
theorem dX4_driveNumbered_31 : decode cX4_driveNumbered 31 = .ok (.dup, 1) := by decide +kernel
theorem dX4_driveNumbered_32 : decode cX4_driveNumbered 32 = .ok (.ldc 245, 2) := by decide +kernel
theorem dX4_driveNumbered_34 : decode cX4_driveNumbered 34 = .ok (.invokespecial 71, 3) := by decide +kernel
theorem dX4_driveNumbered_37 : decode cX4_driveNumbered 37 = .ok (.athrow, 1) := by decide +kernel
theorem dX4_driveNumbered_38 : decode cX4_driveNumbered 38 = .ok (.aload_n 2, 1) := by decide +kernel
theorem dX4_driveNumbered_39 : decode cX4_driveNumbered 39 = .ok (.areturn, 1) := by decide +kernel
theorem dX4_mountedIn_0 : decode cX4_mountedIn 0 = .ok (.aload_n 0, 1) := by decide +kernel
theorem dX4_mountedIn_1 : decode cX4_mountedIn 1 = .ok (.getfield 118, 3) := by decide +kernel
theorem dX4_mountedIn_4 : decode cX4_mountedIn 4 = .ok (.astore_n 1, 1) := by decide +kernel
theorem dX4_mountedIn_5 : decode cX4_mountedIn 5 = .ok (.aload_n 1, 1) := by decide +kernel
theorem dX4_mountedIn_6 : decode cX4_mountedIn 6 = .ok (.ifnonnull 13, 3) := by decide +kernel
theorem dX4_mountedIn_9 : decode cX4_mountedIn 9 = .ok (.new 51, 3) := by decide +kernel
theorem dX4_mountedIn_12 : decode cX4_mountedIn 12 = .ok (.dup, 1) := by decide +kernel
theorem dX4_mountedIn_13 : decode cX4_mountedIn 13 = .ok (.ldc 247, 2) := by decide +kernel
theorem dX4_mountedIn_15 : decode cX4_mountedIn 15 = .ok (.invokespecial 55, 3) := by decide +kernel
theorem dX4_mountedIn_18 : decode cX4_mountedIn 18 = .ok (.athrow, 1) := by decide +kernel
theorem dX4_mountedIn_19 : decode cX4_mountedIn 19 = .ok (.aload_n 1, 1) := by decide +kernel
theorem dX4_mountedIn_20 : decode cX4_mountedIn 20 = .ok (.areturn, 1) := by decide +kernel
theorem dX4_refuseMissingFile_0 : decode cX4_refuseMissingFile 0 = .ok (.iload_n 1, 1) := by decide +kernel
theorem dX4_refuseMissingFile_1 : decode cX4_refuseMissingFile 1 = .ok (.ifCond .lt 11, 3) := by decide +kernel
theorem dX4_refuseMissingFile_4 : decode cX4_refuseMissingFile 4 = .ok (.iload_n 1, 1) := by decide +kernel
theorem dX4_refuseMissingFile_5 : decode cX4_refuseMissingFile 5 = .ok (.aload_n 0, 1) := by decide +kernel
theorem dX4_refuseMissingFile_6 : decode cX4_refuseMissingFile 6 = .ok (.getfield 88, 3) := by decide +kernel
theorem dX4_refuseMissingFile_9 : decode cX4_refuseMissingFile 9 = .ok (.if_icmp .lt 13, 3) := by decide +kernel
theorem dX4_refuseMissingFile_12 : decode cX4_refuseMissingFile 12 = .ok (.new 67, 3) := by decide +kernel
theorem dX4_refuseMissingFile_15 : decode cX4_refuseMissingFile 15 = .ok (.dup, 1) := by decide +kernel
theorem dX4_refuseMissingFile_16 : decode cX4_refuseMissingFile 16 = .ok (.ldc 249, 2) := by decide +kernel
theorem dX4_refuseMissingFile_18 : decode cX4_refuseMissingFile 18 = .ok (.invokespecial 71, 3) := by decide +kernel
theorem dX4_refuseMissingFile_21 : decode cX4_refuseMissingFile 21 = .ok (.athrow, 1) := by decide +kernel
theorem dX4_refuseMissingFile_22 : decode cX4_refuseMissingFile 22 = .ok (.return_, 1) := by decide +kernel
set_option maxRecDepth 20000 in
theorem ggX4_refuseUnclean_X0_wantsCleaning : GoodIn wsX4_refuseUnclean wsX0_wantsCleaning := goodIn_r _ [6, 7, 8, 9, 10, 11, 12, 13, 14] (by decide +kernel) (by decide +kernel)
set_option maxRecDepth 20000 in
theorem gX4_refuseUnclean_X0_wantsCleaning_n219 : GoodIn wsX4_refuseUnclean (wsX0_wantsCleaning) := ggX4_refuseUnclean_X0_wantsCleaning
theorem dX4_refuseUnclean_0 : decode cX4_refuseUnclean 0 = .ok (.aload_n 0, 1) := by decide +kernel
theorem dX4_refuseUnclean_1 : decode cX4_refuseUnclean 1 = .ok (.invokevirtual 219, 3) := by decide +kernel
theorem dX4_refuseUnclean_4 : decode cX4_refuseUnclean 4 = .ok (.ifCond .eq 13, 3) := by decide +kernel
theorem dX4_refuseUnclean_7 : decode cX4_refuseUnclean 7 = .ok (.new 51, 3) := by decide +kernel
theorem dX4_refuseUnclean_10 : decode cX4_refuseUnclean 10 = .ok (.dup, 1) := by decide +kernel
theorem dX4_refuseUnclean_11 : decode cX4_refuseUnclean 11 = .ok (.ldc 251, 2) := by decide +kernel
theorem dX4_refuseUnclean_13 : decode cX4_refuseUnclean 13 = .ok (.invokespecial 55, 3) := by decide +kernel
theorem dX4_refuseUnclean_16 : decode cX4_refuseUnclean 16 = .ok (.athrow, 1) := by decide +kernel
theorem dX4_refuseUnclean_17 : decode cX4_refuseUnclean 17 = .ok (.return_, 1) := by decide +kernel
set_option maxRecDepth 20000 in
theorem ggX4_measureOrders_X4_mountedIn : GoodIn wsX4_measureOrders wsX4_mountedIn := goodIn_ca (goodIn_r _ [6, 7, 8, 71, 72, 73, 74, 75, 76, 77] (by decide +kernel) (by decide +kernel)) (goodIn_sub (fun _ h => List.mem_cons_of_mem _ (List.mem_append_right _ h)) (by decide +kernel))
set_option maxRecDepth 20000 in
theorem gX4_measureOrders_X4_mountedIn : GoodIn wsX4_measureOrders (va_wsS RX4 140 yX4_mountedIn wsX4_mountedIn) := goodIn_app (goodIn_of _ (by decide +kernel)) ggX4_measureOrders_X4_mountedIn
set_option maxRecDepth 20000 in
theorem ggX4_measureOrders_X2_measure : GoodIn wsX4_measureOrders wsX2_measure := goodIn_r _ [12, 13, 14, 15, 16, 17, 18, 19, 20, 21, 22, 23, 24, 25, 26, 5, 27, 28, 29, 30, 31, 32, 33, 34, 35, 36, 37, 38, 39, 40, 41, 42, 43, 44, 45, 46, 47, 48, 49, 50, 51, 52, 53, 54, 55, 56, 57, 58, 59, 60, 61, 62, 63, 64, 78, 79, 80, 81, 82, 83, 84, 85, 86, 87, 88, 89, 90, 91, 71, 72, 73, 74, 75, 76, 77, 92, 93, 94, 95, 96] (by decide +kernel) (by decide +kernel)
set_option maxRecDepth 20000 in
theorem gX4_measureOrders_X2_measure_n253 : GoodIn wsX4_measureOrders (wsX2_measure) := ggX4_measureOrders_X2_measure
theorem dX4_measureOrders_0 : decode cX4_measureOrders 0 = .ok (.aload_n 0, 1) := by decide +kernel
theorem dX4_measureOrders_1 : decode cX4_measureOrders 1 = .ok (.getfield 38, 3) := by decide +kernel
theorem dX4_measureOrders_4 : decode cX4_measureOrders 4 = .ok (.aload_n 1, 1) := by decide +kernel
theorem dX4_measureOrders_5 : decode cX4_measureOrders 5 = .ok (.aload_n 1, 1) := by decide +kernel
theorem dX4_measureOrders_6 : decode cX4_measureOrders 6 = .ok (.invokestatic 140, 3) := by decide +kernel
theorem dX4_measureOrders_9 : decode cX4_measureOrders 9 = .ok (.aload_n 0, 1) := by decide +kernel
theorem dX4_measureOrders_10 : decode cX4_measureOrders 10 = .ok (.getfield 31, 3) := by decide +kernel
theorem dX4_measureOrders_13 : decode cX4_measureOrders 13 = .ok (.invokevirtual 253, 3) := by decide +kernel
theorem dX4_measureOrders_16 : decode cX4_measureOrders 16 = .ok (.return_, 1) := by decide +kernel
theorem dX4_isFree_0 : decode cX4_isFree 0 = .ok (.aload_n 0, 1) := by decide +kernel
theorem dX4_isFree_1 : decode cX4_isFree 1 = .ok (.getfield 11, 3) := by decide +kernel
theorem dX4_isFree_4 : decode cX4_isFree 4 = .ok (.astore_n 2, 1) := by decide +kernel
theorem dX4_isFree_5 : decode cX4_isFree 5 = .ok (.aload_n 2, 1) := by decide +kernel
theorem dX4_isFree_6 : decode cX4_isFree 6 = .ok (.arraylength, 1) := by decide +kernel
theorem dX4_isFree_7 : decode cX4_isFree 7 = .ok (.istore_n 3, 1) := by decide +kernel
theorem dX4_isFree_8 : decode cX4_isFree 8 = .ok (.iconst 0, 1) := by decide +kernel
theorem dX4_isFree_9 : decode cX4_isFree 9 = .ok (.istore 4, 2) := by decide +kernel
theorem dX4_isFree_11 : decode cX4_isFree 11 = .ok (.iload 4, 2) := by decide +kernel
theorem dX4_isFree_13 : decode cX4_isFree 13 = .ok (.iload_n 3, 1) := by decide +kernel
theorem dX4_isFree_14 : decode cX4_isFree 14 = .ok (.if_icmp .ge 31, 3) := by decide +kernel
theorem dX4_isFree_17 : decode cX4_isFree 17 = .ok (.aload_n 2, 1) := by decide +kernel
theorem dX4_isFree_18 : decode cX4_isFree 18 = .ok (.iload 4, 2) := by decide +kernel
theorem dX4_isFree_20 : decode cX4_isFree 20 = .ok (.aaload, 1) := by decide +kernel
theorem dX4_isFree_21 : decode cX4_isFree 21 = .ok (.astore 5, 2) := by decide +kernel
theorem dX4_isFree_23 : decode cX4_isFree 23 = .ok (.aload 5, 2) := by decide +kernel
theorem dX4_isFree_25 : decode cX4_isFree 25 = .ok (.ifnull 14, 3) := by decide +kernel
theorem dX4_isFree_28 : decode cX4_isFree 28 = .ok (.aload 5, 2) := by decide +kernel
theorem dX4_isFree_30 : decode cX4_isFree 30 = .ok (.getfield 82, 3) := by decide +kernel
theorem dX4_isFree_33 : decode cX4_isFree 33 = .ok (.iload_n 1, 1) := by decide +kernel
theorem dX4_isFree_34 : decode cX4_isFree 34 = .ok (.if_icmp .ne 5, 3) := by decide +kernel
theorem dX4_isFree_37 : decode cX4_isFree 37 = .ok (.iconst 0, 1) := by decide +kernel
theorem dX4_isFree_38 : decode cX4_isFree 38 = .ok (.ireturn, 1) := by decide +kernel
theorem dX4_isFree_39 : decode cX4_isFree 39 = .ok (.iinc 4 1, 3) := by decide +kernel
theorem dX4_isFree_42 : decode cX4_isFree 42 = .ok (.goto (-31), 3) := by decide +kernel
theorem dX4_isFree_45 : decode cX4_isFree 45 = .ok (.iconst 1, 1) := by decide +kernel
theorem dX4_isFree_46 : decode cX4_isFree 46 = .ok (.ireturn, 1) := by decide +kernel
set_option maxRecDepth 20000 in
theorem ggX4_lowestFreeSlot_X4_isFree : GoodIn wsX4_lowestFreeSlot wsX4_isFree := goodIn_r _ [5, 6, 7, 8, 9, 10, 11, 12, 13, 14, 15, 16, 17, 18, 19, 20] (by decide +kernel) (by decide +kernel)
set_option maxRecDepth 20000 in
theorem gX4_lowestFreeSlot_X4_isFree : GoodIn wsX4_lowestFreeSlot (wsV RX4 76 RX4 yX4_isFree wsX4_isFree) := goodIn_app (goodIn_of _ (by decide +kernel)) ggX4_lowestFreeSlot_X4_isFree
theorem dX4_lowestFreeSlot_0 : decode cX4_lowestFreeSlot 0 = .ok (.iconst 0, 1) := by decide +kernel
theorem dX4_lowestFreeSlot_1 : decode cX4_lowestFreeSlot 1 = .ok (.istore_n 1, 1) := by decide +kernel
theorem dX4_lowestFreeSlot_2 : decode cX4_lowestFreeSlot 2 = .ok (.iload_n 1, 1) := by decide +kernel
theorem dX4_lowestFreeSlot_3 : decode cX4_lowestFreeSlot 3 = .ok (.bipush 12, 2) := by decide +kernel
theorem dX4_lowestFreeSlot_5 : decode cX4_lowestFreeSlot 5 = .ok (.if_icmp .ge 17, 3) := by decide +kernel
theorem dX4_lowestFreeSlot_8 : decode cX4_lowestFreeSlot 8 = .ok (.aload_n 0, 1) := by decide +kernel
theorem dX4_lowestFreeSlot_9 : decode cX4_lowestFreeSlot 9 = .ok (.iload_n 1, 1) := by decide +kernel
theorem dX4_lowestFreeSlot_10 : decode cX4_lowestFreeSlot 10 = .ok (.invokevirtual 76, 3) := by decide +kernel
theorem dX4_lowestFreeSlot_13 : decode cX4_lowestFreeSlot 13 = .ok (.ifCond .ne 9, 3) := by decide +kernel
theorem dX4_lowestFreeSlot_16 : decode cX4_lowestFreeSlot 16 = .ok (.iinc 1 1, 3) := by decide +kernel
theorem dX4_lowestFreeSlot_19 : decode cX4_lowestFreeSlot 19 = .ok (.goto (-17), 3) := by decide +kernel
theorem dX4_lowestFreeSlot_22 : decode cX4_lowestFreeSlot 22 = .ok (.iload_n 1, 1) := by decide +kernel
theorem dX4_lowestFreeSlot_23 : decode cX4_lowestFreeSlot 23 = .ok (.ireturn, 1) := by decide +kernel
set_option maxRecDepth 20000 in
theorem ggX4_highestSlotWithTape_X3_isInDrive : GoodIn wsX4_highestSlotWithTape wsX3_isInDrive := goodIn_r _ [9, 10, 17, 18, 19, 20, 21, 22, 23, 24] (by decide +kernel) (by decide +kernel)
set_option maxRecDepth 20000 in
theorem gX4_highestSlotWithTape_X3_isInDrive_n72 : GoodIn wsX4_highestSlotWithTape (wsX3_isInDrive) := ggX4_highestSlotWithTape_X3_isInDrive
theorem dX4_highestSlotWithTape_0 : decode cX4_highestSlotWithTape 0 = .ok (.iconst 0, 1) := by decide +kernel
theorem dX4_highestSlotWithTape_1 : decode cX4_highestSlotWithTape 1 = .ok (.istore_n 1, 1) := by decide +kernel
theorem dX4_highestSlotWithTape_2 : decode cX4_highestSlotWithTape 2 = .ok (.aload_n 0, 1) := by decide +kernel
theorem dX4_highestSlotWithTape_3 : decode cX4_highestSlotWithTape 3 = .ok (.getfield 11, 3) := by decide +kernel
theorem dX4_highestSlotWithTape_6 : decode cX4_highestSlotWithTape 6 = .ok (.astore_n 2, 1) := by decide +kernel
theorem dX4_highestSlotWithTape_7 : decode cX4_highestSlotWithTape 7 = .ok (.aload_n 2, 1) := by decide +kernel
theorem dX4_highestSlotWithTape_8 : decode cX4_highestSlotWithTape 8 = .ok (.arraylength, 1) := by decide +kernel
theorem dX4_highestSlotWithTape_9 : decode cX4_highestSlotWithTape 9 = .ok (.istore_n 3, 1) := by decide +kernel
theorem dX4_highestSlotWithTape_10 : decode cX4_highestSlotWithTape 10 = .ok (.iconst 0, 1) := by decide +kernel
theorem dX4_highestSlotWithTape_11 : decode cX4_highestSlotWithTape 11 = .ok (.istore 4, 2) := by decide +kernel
theorem dX4_highestSlotWithTape_13 : decode cX4_highestSlotWithTape 13 = .ok (.iload 4, 2) := by decide +kernel
theorem dX4_highestSlotWithTape_15 : decode cX4_highestSlotWithTape 15 = .ok (.iload_n 3, 1) := by decide +kernel
theorem dX4_highestSlotWithTape_16 : decode cX4_highestSlotWithTape 16 = .ok (.if_icmp .ge 38, 3) := by decide +kernel
theorem dX4_highestSlotWithTape_19 : decode cX4_highestSlotWithTape 19 = .ok (.aload_n 2, 1) := by decide +kernel
theorem dX4_highestSlotWithTape_20 : decode cX4_highestSlotWithTape 20 = .ok (.iload 4, 2) := by decide +kernel
theorem dX4_highestSlotWithTape_22 : decode cX4_highestSlotWithTape 22 = .ok (.aaload, 1) := by decide +kernel
theorem dX4_highestSlotWithTape_23 : decode cX4_highestSlotWithTape 23 = .ok (.astore 5, 2) := by decide +kernel
theorem dX4_highestSlotWithTape_25 : decode cX4_highestSlotWithTape 25 = .ok (.aload 5, 2) := by decide +kernel
theorem dX4_highestSlotWithTape_27 : decode cX4_highestSlotWithTape 27 = .ok (.ifnull 21, 3) := by decide +kernel
theorem dX4_highestSlotWithTape_30 : decode cX4_highestSlotWithTape 30 = .ok (.aload 5, 2) := by decide +kernel
theorem dX4_highestSlotWithTape_32 : decode cX4_highestSlotWithTape 32 = .ok (.invokevirtual 72, 3) := by decide +kernel
theorem dX4_highestSlotWithTape_35 : decode cX4_highestSlotWithTape 35 = .ok (.ifCond .ne 13, 3) := by decide +kernel
theorem dX4_highestSlotWithTape_38 : decode cX4_highestSlotWithTape 38 = .ok (.iload_n 1, 1) := by decide +kernel
theorem dX4_highestSlotWithTape_39 : decode cX4_highestSlotWithTape 39 = .ok (.aload 5, 2) := by decide +kernel
theorem dX4_highestSlotWithTape_41 : decode cX4_highestSlotWithTape 41 = .ok (.getfield 82, 3) := by decide +kernel
theorem dX4_highestSlotWithTape_44 : decode cX4_highestSlotWithTape 44 = .ok (.invokestatic 257, 3) := by decide +kernel
theorem dX4_highestSlotWithTape_47 : decode cX4_highestSlotWithTape 47 = .ok (.istore_n 1, 1) := by decide +kernel
theorem dX4_highestSlotWithTape_48 : decode cX4_highestSlotWithTape 48 = .ok (.iinc 4 1, 3) := by decide +kernel
theorem dX4_highestSlotWithTape_51 : decode cX4_highestSlotWithTape 51 = .ok (.goto (-38), 3) := by decide +kernel
theorem dX4_highestSlotWithTape_54 : decode cX4_highestSlotWithTape 54 = .ok (.iload_n 1, 1) := by decide +kernel
theorem dX4_highestSlotWithTape_55 : decode cX4_highestSlotWithTape 55 = .ok (.ireturn, 1) := by decide +kernel
theorem dX4_countWithoutLabels_0 : decode cX4_countWithoutLabels 0 = .ok (.iconst 0, 1) := by decide +kernel
theorem dX4_countWithoutLabels_1 : decode cX4_countWithoutLabels 1 = .ok (.istore_n 1, 1) := by decide +kernel
theorem dX4_countWithoutLabels_2 : decode cX4_countWithoutLabels 2 = .ok (.aload_n 0, 1) := by decide +kernel
theorem dX4_countWithoutLabels_3 : decode cX4_countWithoutLabels 3 = .ok (.getfield 11, 3) := by decide +kernel
theorem dX4_countWithoutLabels_6 : decode cX4_countWithoutLabels 6 = .ok (.astore_n 2, 1) := by decide +kernel
theorem dX4_countWithoutLabels_7 : decode cX4_countWithoutLabels 7 = .ok (.aload_n 2, 1) := by decide +kernel
theorem dX4_countWithoutLabels_8 : decode cX4_countWithoutLabels 8 = .ok (.arraylength, 1) := by decide +kernel
theorem dX4_countWithoutLabels_9 : decode cX4_countWithoutLabels 9 = .ok (.istore_n 3, 1) := by decide +kernel
theorem dX4_countWithoutLabels_10 : decode cX4_countWithoutLabels 10 = .ok (.iconst 0, 1) := by decide +kernel
theorem dX4_countWithoutLabels_11 : decode cX4_countWithoutLabels 11 = .ok (.istore 4, 2) := by decide +kernel
theorem dX4_countWithoutLabels_13 : decode cX4_countWithoutLabels 13 = .ok (.iload 4, 2) := by decide +kernel
theorem dX4_countWithoutLabels_15 : decode cX4_countWithoutLabels 15 = .ok (.iload_n 3, 1) := by decide +kernel
theorem dX4_countWithoutLabels_16 : decode cX4_countWithoutLabels 16 = .ok (.if_icmp .ge 31, 3) := by decide +kernel
theorem dX4_countWithoutLabels_19 : decode cX4_countWithoutLabels 19 = .ok (.aload_n 2, 1) := by decide +kernel
theorem dX4_countWithoutLabels_20 : decode cX4_countWithoutLabels 20 = .ok (.iload 4, 2) := by decide +kernel
theorem dX4_countWithoutLabels_22 : decode cX4_countWithoutLabels 22 = .ok (.aaload, 1) := by decide +kernel
theorem dX4_countWithoutLabels_23 : decode cX4_countWithoutLabels 23 = .ok (.astore 5, 2) := by decide +kernel
theorem dX4_countWithoutLabels_25 : decode cX4_countWithoutLabels 25 = .ok (.aload 5, 2) := by decide +kernel
theorem dX4_countWithoutLabels_27 : decode cX4_countWithoutLabels 27 = .ok (.ifnull 14, 3) := by decide +kernel
theorem dX4_countWithoutLabels_30 : decode cX4_countWithoutLabels 30 = .ok (.aload 5, 2) := by decide +kernel
theorem dX4_countWithoutLabels_32 : decode cX4_countWithoutLabels 32 = .ok (.getfield 122, 3) := by decide +kernel
theorem dX4_countWithoutLabels_35 : decode cX4_countWithoutLabels 35 = .ok (.ifCond .ne 6, 3) := by decide +kernel
theorem dX4_countWithoutLabels_38 : decode cX4_countWithoutLabels 38 = .ok (.iinc 1 1, 3) := by decide +kernel
theorem dX4_countWithoutLabels_41 : decode cX4_countWithoutLabels 41 = .ok (.iinc 4 1, 3) := by decide +kernel
theorem dX4_countWithoutLabels_44 : decode cX4_countWithoutLabels 44 = .ok (.goto (-31), 3) := by decide +kernel
theorem dX4_countWithoutLabels_47 : decode cX4_countWithoutLabels 47 = .ok (.iload_n 1, 1) := by decide +kernel
theorem dX4_countWithoutLabels_48 : decode cX4_countWithoutLabels 48 = .ok (.ireturn, 1) := by decide +kernel
theorem dX4_at_0 : decode cX4_at 0 = .ok (.iload_n 1, 1) := by decide +kernel
theorem dX4_at_1 : decode cX4_at 1 = .ok (.ifCond .lt 15, 3) := by decide +kernel
theorem dX4_at_4 : decode cX4_at 4 = .ok (.iload_n 1, 1) := by decide +kernel
theorem dX4_at_5 : decode cX4_at 5 = .ok (.aload_n 0, 1) := by decide +kernel
theorem dX4_at_6 : decode cX4_at 6 = .ok (.arraylength, 1) := by decide +kernel
theorem dX4_at_7 : decode cX4_at 7 = .ok (.if_icmp .ge 9, 3) := by decide +kernel
theorem dX4_at_10 : decode cX4_at 10 = .ok (.aload_n 0, 1) := by decide +kernel
theorem dX4_at_11 : decode cX4_at 11 = .ok (.iload_n 1, 1) := by decide +kernel
theorem dX4_at_12 : decode cX4_at 12 = .ok (.iaload, 1) := by decide +kernel
theorem dX4_at_13 : decode cX4_at 13 = .ok (.goto 4, 3) := by decide +kernel
theorem dX4_at_16 : decode cX4_at 16 = .ok (.iconst 0, 1) := by decide +kernel
theorem dX4_at_17 : decode cX4_at 17 = .ok (.ireturn, 1) := by decide +kernel
theorem dX4_put_0 : decode cX4_put 0 = .ok (.iload_n 1, 1) := by decide +kernel
theorem dX4_put_1 : decode cX4_put 1 = .ok (.ifCond .lt 13, 3) := by decide +kernel
theorem dX4_put_4 : decode cX4_put 4 = .ok (.iload_n 1, 1) := by decide +kernel
theorem dX4_put_5 : decode cX4_put 5 = .ok (.aload_n 0, 1) := by decide +kernel
theorem dX4_put_6 : decode cX4_put 6 = .ok (.arraylength, 1) := by decide +kernel
theorem dX4_put_7 : decode cX4_put 7 = .ok (.if_icmp .ge 7, 3) := by decide +kernel
theorem dX4_put_10 : decode cX4_put 10 = .ok (.aload_n 0, 1) := by decide +kernel
theorem dX4_put_11 : decode cX4_put 11 = .ok (.iload_n 1, 1) := by decide +kernel
theorem dX4_put_12 : decode cX4_put 12 = .ok (.iload_n 2, 1) := by decide +kernel
theorem dX4_put_13 : decode cX4_put 13 = .ok (.iastore, 1) := by decide +kernel
theorem dX4_put_14 : decode cX4_put 14 = .ok (.return_, 1) := by decide +kernel
end
section
theorem dX5_init_0 : decode cX5_init 0 = .ok (.aload_n 0, 1) := by decide +kernel
theorem dX5_init_1 : decode cX5_init 1 = .ok (.invokespecial 1, 3) := by decide +kernel
theorem dX5_init_4 : decode cX5_init 4 = .ok (.aload_n 0, 1) := by decide +kernel
theorem dX5_init_5 : decode cX5_init 5 = .ok (.bipush 8, 2) := by decide +kernel
theorem dX5_init_7 : decode cX5_init 7 = .ok (.newarray .int, 2) := by decide +kernel
theorem dX5_init_9 : decode cX5_init 9 = .ok (.putfield 7, 3) := by decide +kernel
theorem dX5_init_12 : decode cX5_init 12 = .ok (.aload_n 0, 1) := by decide +kernel
theorem dX5_init_13 : decode cX5_init 13 = .ok (.bipush 8, 2) := by decide +kernel
theorem dX5_init_15 : decode cX5_init 15 = .ok (.newarray .int, 2) := by decide +kernel
theorem dX5_init_17 : decode cX5_init 17 = .ok (.putfield 13, 3) := by decide +kernel
theorem dX5_init_20 : decode cX5_init 20 = .ok (.aload_n 0, 1) := by decide +kernel
theorem dX5_init_21 : decode cX5_init 21 = .ok (.bipush 8, 2) := by decide +kernel
theorem dX5_init_23 : decode cX5_init 23 = .ok (.newarray .int, 2) := by decide +kernel
theorem dX5_init_25 : decode cX5_init 25 = .ok (.putfield 16, 3) := by decide +kernel
theorem dX5_init_28 : decode cX5_init 28 = .ok (.aload_n 0, 1) := by decide +kernel
theorem dX5_init_29 : decode cX5_init 29 = .ok (.bipush 8, 2) := by decide +kernel
theorem dX5_init_31 : decode cX5_init 31 = .ok (.newarray .int, 2) := by decide +kernel
theorem dX5_init_33 : decode cX5_init 33 = .ok (.putfield 19, 3) := by decide +kernel
theorem dX5_init_36 : decode cX5_init 36 = .ok (.aload_n 0, 1) := by decide +kernel
theorem dX5_init_37 : decode cX5_init 37 = .ok (.bipush 8, 2) := by decide +kernel
theorem dX5_init_39 : decode cX5_init 39 = .ok (.newarray .boolean, 2) := by decide +kernel
theorem dX5_init_41 : decode cX5_init 41 = .ok (.putfield 22, 3) := by decide +kernel
theorem dX5_init_44 : decode cX5_init 44 = .ok (.aload_n 0, 1) := by decide +kernel
theorem dX5_init_45 : decode cX5_init 45 = .ok (.bipush 8, 2) := by decide +kernel
theorem dX5_init_47 : decode cX5_init 47 = .ok (.newarray .int, 2) := by decide +kernel
theorem dX5_init_49 : decode cX5_init 49 = .ok (.putfield 26, 3) := by decide +kernel
theorem dX5_init_52 : decode cX5_init 52 = .ok (.aload_n 0, 1) := by decide +kernel
theorem dX5_init_53 : decode cX5_init 53 = .ok (.bipush 80, 2) := by decide +kernel
theorem dX5_init_55 : decode cX5_init 55 = .ok (.newarray .int, 2) := by decide +kernel
theorem dX5_init_57 : decode cX5_init 57 = .ok (.putfield 29, 3) := by decide +kernel
theorem dX5_init_60 : decode cX5_init 60 = .ok (.aload_n 0, 1) := by decide +kernel
theorem dX5_init_61 : decode cX5_init 61 = .ok (.bipush 80, 2) := by decide +kernel
theorem dX5_init_63 : decode cX5_init 63 = .ok (.newarray .int, 2) := by decide +kernel
theorem dX5_init_65 : decode cX5_init 65 = .ok (.putfield 32, 3) := by decide +kernel
theorem dX5_init_68 : decode cX5_init 68 = .ok (.aload_n 0, 1) := by decide +kernel
theorem dX5_init_69 : decode cX5_init 69 = .ok (.iconst 3, 1) := by decide +kernel
theorem dX5_init_70 : decode cX5_init 70 = .ok (.newarray .int, 2) := by decide +kernel
theorem dX5_init_72 : decode cX5_init 72 = .ok (.putfield 35, 3) := by decide +kernel
theorem dX5_init_75 : decode cX5_init 75 = .ok (.aload_n 0, 1) := by decide +kernel
theorem dX5_init_76 : decode cX5_init 76 = .ok (.iconst 3, 1) := by decide +kernel
theorem dX5_init_77 : decode cX5_init 77 = .ok (.newarray .int, 2) := by decide +kernel
theorem dX5_init_79 : decode cX5_init 79 = .ok (.putfield 38, 3) := by decide +kernel
theorem dX5_init_82 : decode cX5_init 82 = .ok (.aload_n 0, 1) := by decide +kernel
theorem dX5_init_83 : decode cX5_init 83 = .ok (.iconst 3, 1) := by decide +kernel
theorem dX5_init_84 : decode cX5_init 84 = .ok (.newarray .int, 2) := by decide +kernel
theorem dX5_init_86 : decode cX5_init 86 = .ok (.putfield 41, 3) := by decide +kernel
theorem dX5_init_89 : decode cX5_init 89 = .ok (.aload_n 0, 1) := by decide +kernel
theorem dX5_init_90 : decode cX5_init 90 = .ok (.iconst 3, 1) := by decide +kernel
theorem dX5_init_91 : decode cX5_init 91 = .ok (.newarray .int, 2) := by decide +kernel
theorem dX5_init_93 : decode cX5_init 93 = .ok (.putfield 44, 3) := by decide +kernel
theorem dX5_init_96 : decode cX5_init 96 = .ok (.aload_n 0, 1) := by decide +kernel
theorem dX5_init_97 : decode cX5_init 97 = .ok (.iconst 3, 1) := by decide +kernel
theorem dX5_init_98 : decode cX5_init 98 = .ok (.newarray .int, 2) := by decide +kernel
theorem dX5_init_100 : decode cX5_init 100 = .ok (.putfield 47, 3) := by decide +kernel
theorem dX5_init_103 : decode cX5_init 103 = .ok (.aload_n 0, 1) := by decide +kernel
theorem dX5_init_104 : decode cX5_init 104 = .ok (.bipush 60, 2) := by decide +kernel
theorem dX5_init_106 : decode cX5_init 106 = .ok (.newarray .int, 2) := by decide +kernel
theorem dX5_init_108 : decode cX5_init 108 = .ok (.putfield 50, 3) := by decide +kernel
theorem dX5_init_111 : decode cX5_init 111 = .ok (.aload_n 0, 1) := by decide +kernel
theorem dX5_init_112 : decode cX5_init 112 = .ok (.bipush 60, 2) := by decide +kernel
theorem dX5_init_114 : decode cX5_init 114 = .ok (.newarray .int, 2) := by decide +kernel
theorem dX5_init_116 : decode cX5_init 116 = .ok (.putfield 53, 3) := by decide +kernel
theorem dX5_init_119 : decode cX5_init 119 = .ok (.aload_n 0, 1) := by decide +kernel
theorem dX5_init_120 : decode cX5_init 120 = .ok (.bipush 60, 2) := by decide +kernel
theorem dX5_init_122 : decode cX5_init 122 = .ok (.newarray .int, 2) := by decide +kernel
theorem dX5_init_124 : decode cX5_init 124 = .ok (.putfield 56, 3) := by decide +kernel
theorem dX5_init_127 : decode cX5_init 127 = .ok (.aload_n 0, 1) := by decide +kernel
theorem dX5_init_128 : decode cX5_init 128 = .ok (.bipush 60, 2) := by decide +kernel
theorem dX5_init_130 : decode cX5_init 130 = .ok (.newarray .boolean, 2) := by decide +kernel
theorem dX5_init_132 : decode cX5_init 132 = .ok (.putfield 59, 3) := by decide +kernel
theorem dX5_init_135 : decode cX5_init 135 = .ok (.aload_n 0, 1) := by decide +kernel
theorem dX5_init_136 : decode cX5_init 136 = .ok (.bipush 7, 2) := by decide +kernel
theorem dX5_init_138 : decode cX5_init 138 = .ok (.newarray .int, 2) := by decide +kernel
theorem dX5_init_140 : decode cX5_init 140 = .ok (.putfield 62, 3) := by decide +kernel
theorem dX5_init_143 : decode cX5_init 143 = .ok (.aload_n 0, 1) := by decide +kernel
theorem dX5_init_144 : decode cX5_init 144 = .ok (.bipush 7, 2) := by decide +kernel
theorem dX5_init_146 : decode cX5_init 146 = .ok (.newarray .int, 2) := by decide +kernel
theorem dX5_init_148 : decode cX5_init 148 = .ok (.putfield 65, 3) := by decide +kernel
theorem dX5_init_151 : decode cX5_init 151 = .ok (.aload_n 0, 1) := by decide +kernel
theorem dX5_init_152 : decode cX5_init 152 = .ok (.sipush 1024, 3) := by decide +kernel
theorem dX5_init_155 : decode cX5_init 155 = .ok (.newarray .int, 2) := by decide +kernel
theorem dX5_init_157 : decode cX5_init 157 = .ok (.putfield 68, 3) := by decide +kernel
theorem dX5_init_160 : decode cX5_init 160 = .ok (.aload_n 0, 1) := by decide +kernel
theorem dX5_init_161 : decode cX5_init 161 = .ok (.bipush 8, 2) := by decide +kernel
theorem dX5_init_163 : decode cX5_init 163 = .ok (.newarray .int, 2) := by decide +kernel
theorem dX5_init_165 : decode cX5_init 165 = .ok (.putfield 71, 3) := by decide +kernel
theorem dX5_init_168 : decode cX5_init 168 = .ok (.return_, 1) := by decide +kernel
theorem dX5_thrown_0 : decode cX5_thrown 0 = .ok (.aload_n 0, 1) := by decide +kernel
theorem dX5_thrown_1 : decode cX5_thrown 1 = .ok (.getfield 74, 3) := by decide +kernel
theorem dX5_thrown_4 : decode cX5_thrown 4 = .ok (.ireturn, 1) := by decide +kernel
theorem dX5_may_0 : decode cX5_may 0 = .ok (.aload_n 0, 1) := by decide +kernel
theorem dX5_may_1 : decode cX5_may 1 = .ok (.iload_n 1, 1) := by decide +kernel
theorem dX5_may_2 : decode cX5_may 2 = .ok (.ifCond .eq 7, 3) := by decide +kernel
theorem dX5_may_5 : decode cX5_may 5 = .ok (.iconst 0, 1) := by decide +kernel
theorem dX5_may_6 : decode cX5_may 6 = .ok (.goto 4, 3) := by decide +kernel
theorem dX5_may_9 : decode cX5_may 9 = .ok (.iconst 1, 1) := by decide +kernel
theorem dX5_may_10 : decode cX5_may 10 = .ok (.putfield 74, 3) := by decide +kernel
theorem dX5_may_13 : decode cX5_may 13 = .ok (.iload_n 1, 1) := by decide +kernel
theorem dX5_may_14 : decode cX5_may 14 = .ok (.ireturn, 1) := by decide +kernel
theorem dX5_mayBoth_0 : decode cX5_mayBoth 0 = .ok (.aload_n 0, 1) := by decide +kernel
theorem dX5_mayBoth_1 : decode cX5_mayBoth 1 = .ok (.iload_n 1, 1) := by decide +kernel
theorem dX5_mayBoth_2 : decode cX5_mayBoth 2 = .ok (.ifCond .ne 7, 3) := by decide +kernel
theorem dX5_mayBoth_5 : decode cX5_mayBoth 5 = .ok (.iconst 1, 1) := by decide +kernel
theorem dX5_mayBoth_6 : decode cX5_mayBoth 6 = .ok (.goto 12, 3) := by decide +kernel
theorem dX5_mayBoth_9 : decode cX5_mayBoth 9 = .ok (.iload_n 2, 1) := by decide +kernel
theorem dX5_mayBoth_10 : decode cX5_mayBoth 10 = .ok (.ifCond .ne 7, 3) := by decide +kernel
theorem dX5_mayBoth_13 : decode cX5_mayBoth 13 = .ok (.iconst 2, 1) := by decide +kernel
theorem dX5_mayBoth_14 : decode cX5_mayBoth 14 = .ok (.goto 4, 3) := by decide +kernel
theorem dX5_mayBoth_17 : decode cX5_mayBoth 17 = .ok (.iconst 0, 1) := by decide +kernel
theorem dX5_mayBoth_18 : decode cX5_mayBoth 18 = .ok (.putfield 74, 3) := by decide +kernel
theorem dX5_mayBoth_21 : decode cX5_mayBoth 21 = .ok (.aload_n 0, 1) := by decide +kernel
theorem dX5_mayBoth_22 : decode cX5_mayBoth 22 = .ok (.getfield 74, 3) := by decide +kernel
theorem dX5_mayBoth_25 : decode cX5_mayBoth 25 = .ok (.ifCond .ne 7, 3) := by decide +kernel
theorem dX5_mayBoth_28 : decode cX5_mayBoth 28 = .ok (.iconst 1, 1) := by decide +kernel
theorem dX5_mayBoth_29 : decode cX5_mayBoth 29 = .ok (.goto 4, 3) := by decide +kernel
theorem dX5_mayBoth_32 : decode cX5_mayBoth 32 = .ok (.iconst 0, 1) := by decide +kernel
theorem dX5_mayBoth_33 : decode cX5_mayBoth 33 = .ok (.ireturn, 1) := by decide +kernel
theorem dX5_mayAll_0 : decode cX5_mayAll 0 = .ok (.aload_n 0, 1) := by decide +kernel
theorem dX5_mayAll_1 : decode cX5_mayAll 1 = .ok (.iload_n 1, 1) := by decide +kernel
theorem dX5_mayAll_2 : decode cX5_mayAll 2 = .ok (.ifCond .ne 7, 3) := by decide +kernel
theorem dX5_mayAll_5 : decode cX5_mayAll 5 = .ok (.iconst 1, 1) := by decide +kernel
theorem dX5_mayAll_6 : decode cX5_mayAll 6 = .ok (.goto 20, 3) := by decide +kernel
theorem dX5_mayAll_9 : decode cX5_mayAll 9 = .ok (.iload_n 2, 1) := by decide +kernel
theorem dX5_mayAll_10 : decode cX5_mayAll 10 = .ok (.ifCond .ne 7, 3) := by decide +kernel
theorem dX5_mayAll_13 : decode cX5_mayAll 13 = .ok (.iconst 2, 1) := by decide +kernel
theorem dX5_mayAll_14 : decode cX5_mayAll 14 = .ok (.goto 12, 3) := by decide +kernel
theorem dX5_mayAll_17 : decode cX5_mayAll 17 = .ok (.iload_n 3, 1) := by decide +kernel
theorem dX5_mayAll_18 : decode cX5_mayAll 18 = .ok (.ifCond .ne 7, 3) := by decide +kernel
theorem dX5_mayAll_21 : decode cX5_mayAll 21 = .ok (.iconst 3, 1) := by decide +kernel
theorem dX5_mayAll_22 : decode cX5_mayAll 22 = .ok (.goto 4, 3) := by decide +kernel
theorem dX5_mayAll_25 : decode cX5_mayAll 25 = .ok (.iconst 0, 1) := by decide +kernel
theorem dX5_mayAll_26 : decode cX5_mayAll 26 = .ok (.putfield 74, 3) := by decide +kernel
theorem dX5_mayAll_29 : decode cX5_mayAll 29 = .ok (.aload_n 0, 1) := by decide +kernel
theorem dX5_mayAll_30 : decode cX5_mayAll 30 = .ok (.getfield 74, 3) := by decide +kernel
theorem dX5_mayAll_33 : decode cX5_mayAll 33 = .ok (.ifCond .ne 7, 3) := by decide +kernel
theorem dX5_mayAll_36 : decode cX5_mayAll 36 = .ok (.iconst 1, 1) := by decide +kernel
theorem dX5_mayAll_37 : decode cX5_mayAll 37 = .ok (.goto 4, 3) := by decide +kernel
theorem dX5_mayAll_40 : decode cX5_mayAll 40 = .ok (.iconst 0, 1) := by decide +kernel
theorem dX5_mayAll_41 : decode cX5_mayAll 41 = .ok (.ireturn, 1) := by decide +kernel
theorem dX5_isIn_0 : decode cX5_isIn 0 = .ok (.iload_n 0, 1) := by decide +kernel
theorem dX5_isIn_1 : decode cX5_isIn 1 = .ok (.iload_n 1, 1) := by decide +kernel
theorem dX5_isIn_2 : decode cX5_isIn 2 = .ok (.if_icmp .lt 12, 3) := by decide +kernel
theorem dX5_isIn_5 : decode cX5_isIn 5 = .ok (.iload_n 0, 1) := by decide +kernel
theorem dX5_isIn_6 : decode cX5_isIn 6 = .ok (.iload_n 2, 1) := by decide +kernel
theorem dX5_isIn_7 : decode cX5_isIn 7 = .ok (.if_icmp .gt 7, 3) := by decide +kernel
theorem dX5_isIn_10 : decode cX5_isIn 10 = .ok (.iconst 1, 1) := by decide +kernel
theorem dX5_isIn_11 : decode cX5_isIn 11 = .ok (.goto 4, 3) := by decide +kernel
theorem dX5_isIn_14 : decode cX5_isIn 14 = .ok (.iconst 0, 1) := by decide +kernel
theorem dX5_isIn_15 : decode cX5_isIn 15 = .ok (.ireturn, 1) := by decide +kernel
theorem dX5_size_0 : decode cX5_size 0 = .ok (.iload_n 0, 1) := by decide +kernel
theorem dX5_size_1 : decode cX5_size 1 = .ok (.ifCond .ge 8, 3) := by decide +kernel
theorem dX5_size_4 : decode cX5_size 4 = .ok (.iload_n 0, 1) := by decide +kernel
theorem dX5_size_5 : decode cX5_size 5 = .ok (.ineg, 1) := by decide +kernel
theorem dX5_size_6 : decode cX5_size 6 = .ok (.goto 4, 3) := by decide +kernel
theorem dX5_size_9 : decode cX5_size 9 = .ok (.iload_n 0, 1) := by decide +kernel
theorem dX5_size_10 : decode cX5_size 10 = .ok (.ireturn, 1) := by decide +kernel
set_option maxRecDepth 20000 in
theorem ggX5_isTape_X5_isIn : GoodIn wsX5_isTape wsX5_isIn := goodIn_r _ [5] (by decide +kernel) (by decide +kernel)
set_option maxRecDepth 20000 in
theorem gX5_isTape_X5_isIn : GoodIn wsX5_isTape (va_wsS RX5 81 yX5_isIn wsX5_isIn) := goodIn_app (goodIn_of _ (by decide +kernel)) ggX5_isTape_X5_isIn
theorem dX5_isTape_0 : decode cX5_isTape 0 = .ok (.iload_n 1, 1) := by decide +kernel
theorem dX5_isTape_1 : decode cX5_isTape 1 = .ok (.iconst 0, 1) := by decide +kernel
theorem dX5_isTape_2 : decode cX5_isTape 2 = .ok (.aload_n 0, 1) := by decide +kernel
theorem dX5_isTape_3 : decode cX5_isTape 3 = .ok (.getfield 78, 3) := by decide +kernel
theorem dX5_isTape_6 : decode cX5_isTape 6 = .ok (.iconst 1, 1) := by decide +kernel
theorem dX5_isTape_7 : decode cX5_isTape 7 = .ok (.isub, 1) := by decide +kernel
theorem dX5_isTape_8 : decode cX5_isTape 8 = .ok (.invokestatic 81, 3) := by decide +kernel
theorem dX5_isTape_11 : decode cX5_isTape 11 = .ok (.ireturn, 1) := by decide +kernel
set_option maxRecDepth 20000 in
theorem ggX5_isDrive_X5_isIn : GoodIn wsX5_isDrive wsX5_isIn := goodIn_r _ [5] (by decide +kernel) (by decide +kernel)
set_option maxRecDepth 20000 in
theorem gX5_isDrive_X5_isIn : GoodIn wsX5_isDrive (va_wsS RX5 81 yX5_isIn wsX5_isIn) := goodIn_app (goodIn_of _ (by decide +kernel)) ggX5_isDrive_X5_isIn
theorem dX5_isDrive_0 : decode cX5_isDrive 0 = .ok (.iload_n 1, 1) := by decide +kernel
theorem dX5_isDrive_1 : decode cX5_isDrive 1 = .ok (.iconst 0, 1) := by decide +kernel
theorem dX5_isDrive_2 : decode cX5_isDrive 2 = .ok (.aload_n 0, 1) := by decide +kernel
theorem dX5_isDrive_3 : decode cX5_isDrive 3 = .ok (.getfield 85, 3) := by decide +kernel
theorem dX5_isDrive_6 : decode cX5_isDrive 6 = .ok (.iconst 1, 1) := by decide +kernel
theorem dX5_isDrive_7 : decode cX5_isDrive 7 = .ok (.isub, 1) := by decide +kernel
theorem dX5_isDrive_8 : decode cX5_isDrive 8 = .ok (.invokestatic 81, 3) := by decide +kernel
theorem dX5_isDrive_11 : decode cX5_isDrive 11 = .ok (.ireturn, 1) := by decide +kernel
set_option maxRecDepth 20000 in
theorem ggX5_isFile_X5_isTape : GoodIn wsX5_isFile wsX5_isTape := goodIn_r _ [6, 7, 8, 9, 5, 10, 11, 12, 13, 14, 15, 16, 17, 18, 19, 20, 21, 22, 23, 24, 25, 26, 27, 28, 29, 30, 31, 32, 33, 34, 35, 36] (by decide +kernel) (by decide +kernel)
set_option maxRecDepth 20000 in
theorem gX5_isFile_X5_isTape : GoodIn wsX5_isFile (wsV RX5 88 RX5 yX5_isTape wsX5_isTape) := goodIn_app (goodIn_of _ (by decide +kernel)) ggX5_isFile_X5_isTape
set_option maxRecDepth 20000 in
theorem ggX5_isFile_X5_isIn : GoodIn wsX5_isFile wsX5_isIn := goodIn_r _ [10] (by decide +kernel) (by decide +kernel)
set_option maxRecDepth 20000 in
theorem gX5_isFile_X5_isIn : GoodIn wsX5_isFile (va_wsS RX5 81 yX5_isIn wsX5_isIn) := goodIn_app (goodIn_of _ (by decide +kernel)) ggX5_isFile_X5_isIn
theorem dX5_isFile_0 : decode cX5_isFile 0 = .ok (.aload_n 0, 1) := by decide +kernel
theorem dX5_isFile_1 : decode cX5_isFile 1 = .ok (.iload_n 1, 1) := by decide +kernel
theorem dX5_isFile_2 : decode cX5_isFile 2 = .ok (.invokevirtual 88, 3) := by decide +kernel
theorem dX5_isFile_5 : decode cX5_isFile 5 = .ok (.ifCond .eq 23, 3) := by decide +kernel
theorem dX5_isFile_8 : decode cX5_isFile 8 = .ok (.iload_n 2, 1) := by decide +kernel
theorem dX5_isFile_9 : decode cX5_isFile 9 = .ok (.iconst 0, 1) := by decide +kernel
theorem dX5_isFile_10 : decode cX5_isFile 10 = .ok (.aload_n 0, 1) := by decide +kernel
theorem dX5_isFile_11 : decode cX5_isFile 11 = .ok (.getfield 26, 3) := by decide +kernel
theorem dX5_isFile_14 : decode cX5_isFile 14 = .ok (.iload_n 1, 1) := by decide +kernel
theorem dX5_isFile_15 : decode cX5_isFile 15 = .ok (.iaload, 1) := by decide +kernel
theorem dX5_isFile_16 : decode cX5_isFile 16 = .ok (.iconst 1, 1) := by decide +kernel
theorem dX5_isFile_17 : decode cX5_isFile 17 = .ok (.isub, 1) := by decide +kernel
theorem dX5_isFile_18 : decode cX5_isFile 18 = .ok (.invokestatic 81, 3) := by decide +kernel
theorem dX5_isFile_21 : decode cX5_isFile 21 = .ok (.ifCond .eq 7, 3) := by decide +kernel
theorem dX5_isFile_24 : decode cX5_isFile 24 = .ok (.iconst 1, 1) := by decide +kernel
theorem dX5_isFile_25 : decode cX5_isFile 25 = .ok (.goto 4, 3) := by decide +kernel
theorem dX5_isFile_28 : decode cX5_isFile 28 = .ok (.iconst 0, 1) := by decide +kernel
theorem dX5_isFile_29 : decode cX5_isFile 29 = .ok (.ireturn, 1) := by decide +kernel
set_option maxRecDepth 20000 in
theorem ggX5_hasTape_X5_isDrive : GoodIn wsX5_hasTape wsX5_isDrive := goodIn_r _ [6, 7, 8, 9, 5, 10, 11, 12, 13, 14, 15, 16, 17, 18, 19, 20, 21, 22, 23, 24, 25, 26, 27, 28, 29, 30, 31, 32, 33, 34, 35, 36] (by decide +kernel) (by decide +kernel)
set_option maxRecDepth 20000 in
theorem gX5_hasTape_X5_isDrive : GoodIn wsX5_hasTape (wsV RX5 92 RX5 yX5_isDrive wsX5_isDrive) := goodIn_app (goodIn_of _ (by decide +kernel)) ggX5_hasTape_X5_isDrive
theorem dX5_hasTape_0 : decode cX5_hasTape 0 = .ok (.aload_n 0, 1) := by decide +kernel
theorem dX5_hasTape_1 : decode cX5_hasTape 1 = .ok (.iload_n 1, 1) := by decide +kernel
theorem dX5_hasTape_2 : decode cX5_hasTape 2 = .ok (.invokevirtual 92, 3) := by decide +kernel
theorem dX5_hasTape_5 : decode cX5_hasTape 5 = .ok (.ifCond .eq 17, 3) := by decide +kernel
theorem dX5_hasTape_8 : decode cX5_hasTape 8 = .ok (.aload_n 0, 1) := by decide +kernel
theorem dX5_hasTape_9 : decode cX5_hasTape 9 = .ok (.getfield 44, 3) := by decide +kernel
theorem dX5_hasTape_12 : decode cX5_hasTape 12 = .ok (.iload_n 1, 1) := by decide +kernel
theorem dX5_hasTape_13 : decode cX5_hasTape 13 = .ok (.iaload, 1) := by decide +kernel
theorem dX5_hasTape_14 : decode cX5_hasTape 14 = .ok (.iconst (-1), 1) := by decide +kernel
theorem dX5_hasTape_15 : decode cX5_hasTape 15 = .ok (.if_icmp .eq 7, 3) := by decide +kernel
theorem dX5_hasTape_18 : decode cX5_hasTape 18 = .ok (.iconst 1, 1) := by decide +kernel
theorem dX5_hasTape_19 : decode cX5_hasTape 19 = .ok (.goto 4, 3) := by decide +kernel
theorem dX5_hasTape_22 : decode cX5_hasTape 22 = .ok (.iconst 0, 1) := by decide +kernel
theorem dX5_hasTape_23 : decode cX5_hasTape 23 = .ok (.ireturn, 1) := by decide +kernel
theorem dX5_isClean_0 : decode cX5_isClean 0 = .ok (.aload_n 0, 1) := by decide +kernel
theorem dX5_isClean_1 : decode cX5_isClean 1 = .ok (.getfield 41, 3) := by decide +kernel
theorem dX5_isClean_4 : decode cX5_isClean 4 = .ok (.iload_n 1, 1) := by decide +kernel
theorem dX5_isClean_5 : decode cX5_isClean 5 = .ok (.iaload, 1) := by decide +kernel
theorem dX5_isClean_6 : decode cX5_isClean 6 = .ok (.bipush 12, 2) := by decide +kernel
theorem dX5_isClean_8 : decode cX5_isClean 8 = .ok (.if_icmp .ge 7, 3) := by decide +kernel
theorem dX5_isClean_11 : decode cX5_isClean 11 = .ok (.iconst 1, 1) := by decide +kernel
theorem dX5_isClean_12 : decode cX5_isClean 12 = .ok (.goto 4, 3) := by decide +kernel
theorem dX5_isClean_15 : decode cX5_isClean 15 = .ok (.iconst 0, 1) := by decide +kernel
theorem dX5_isClean_16 : decode cX5_isClean 16 = .ok (.ireturn, 1) := by decide +kernel
theorem dX5_isFree_0 : decode cX5_isFree 0 = .ok (.iconst 0, 1) := by decide +kernel
theorem dX5_isFree_1 : decode cX5_isFree 1 = .ok (.istore_n 2, 1) := by decide +kernel
theorem dX5_isFree_2 : decode cX5_isFree 2 = .ok (.iload_n 2, 1) := by decide +kernel
theorem dX5_isFree_3 : decode cX5_isFree 3 = .ok (.aload_n 0, 1) := by decide +kernel
theorem dX5_isFree_4 : decode cX5_isFree 4 = .ok (.getfield 78, 3) := by decide +kernel
theorem dX5_isFree_7 : decode cX5_isFree 7 = .ok (.if_icmp .ge 21, 3) := by decide +kernel
theorem dX5_isFree_10 : decode cX5_isFree 10 = .ok (.aload_n 0, 1) := by decide +kernel
theorem dX5_isFree_11 : decode cX5_isFree 11 = .ok (.getfield 16, 3) := by decide +kernel
theorem dX5_isFree_14 : decode cX5_isFree 14 = .ok (.iload_n 2, 1) := by decide +kernel
theorem dX5_isFree_15 : decode cX5_isFree 15 = .ok (.iaload, 1) := by decide +kernel
theorem dX5_isFree_16 : decode cX5_isFree 16 = .ok (.iload_n 1, 1) := by decide +kernel
theorem dX5_isFree_17 : decode cX5_isFree 17 = .ok (.if_icmp .ne 5, 3) := by decide +kernel
theorem dX5_isFree_20 : decode cX5_isFree 20 = .ok (.iconst 0, 1) := by decide +kernel
theorem dX5_isFree_21 : decode cX5_isFree 21 = .ok (.ireturn, 1) := by decide +kernel
theorem dX5_isFree_22 : decode cX5_isFree 22 = .ok (.iinc 2 1, 3) := by decide +kernel
theorem dX5_isFree_25 : decode cX5_isFree 25 = .ok (.goto (-23), 3) := by decide +kernel
theorem dX5_isFree_28 : decode cX5_isFree 28 = .ok (.iconst 1, 1) := by decide +kernel
theorem dX5_isFree_29 : decode cX5_isFree 29 = .ok (.ireturn, 1) := by decide +kernel
set_option maxRecDepth 20000 in
theorem ggX5_tape_X5_isIn : GoodIn wsX5_tape wsX5_isIn := goodIn_r _ [9] (by decide +kernel) (by decide +kernel)
set_option maxRecDepth 20000 in
theorem gX5_tape_X5_isIn : GoodIn wsX5_tape (va_wsS RX5 81 yX5_isIn wsX5_isIn) := goodIn_app (goodIn_of _ (by decide +kernel)) ggX5_tape_X5_isIn
set_option maxRecDepth 20000 in
theorem ggX5_tape_X5_mayBoth : GoodIn wsX5_tape wsX5_mayBoth := goodIn_r _ [13, 14, 19, 20, 21, 22, 23, 24, 25, 26, 27, 28, 29, 30, 31, 32, 33, 34, 35, 36, 37, 38, 39, 40, 41, 42, 43, 44] (by decide +kernel) (by decide +kernel)
set_option maxRecDepth 20000 in
theorem gX5_tape_X5_mayBoth : GoodIn wsX5_tape (wsV RX5 95 RX5 yX5_mayBoth wsX5_mayBoth) := goodIn_app (goodIn_of _ (by decide +kernel)) ggX5_tape_X5_mayBoth
set_option maxRecDepth 20000 in
theorem ggX5_tape_X5_isFree : GoodIn wsX5_tape wsX5_isFree := goodIn_r _ [18, 1, 4, 19, 20, 21, 22, 23, 24, 25, 26, 27, 28, 29, 30, 31, 32, 33, 34, 35, 36, 37, 38, 39, 40, 41, 42, 43, 44] (by decide +kernel) (by decide +kernel)
set_option maxRecDepth 20000 in
theorem gX5_tape_X5_isFree : GoodIn wsX5_tape (wsV RX5 99 RX5 yX5_isFree wsX5_isFree) := goodIn_app (goodIn_of _ (by decide +kernel)) ggX5_tape_X5_isFree
theorem dX5_tape_0 : decode cX5_tape 0 = .ok (.aload_n 0, 1) := by decide +kernel
theorem dX5_tape_1 : decode cX5_tape 1 = .ok (.iload_n 1, 1) := by decide +kernel
theorem dX5_tape_2 : decode cX5_tape 2 = .ok (.iconst 1, 1) := by decide +kernel
theorem dX5_tape_3 : decode cX5_tape 3 = .ok (.bipush 8, 2) := by decide +kernel
theorem dX5_tape_5 : decode cX5_tape 5 = .ok (.invokestatic 81, 3) := by decide +kernel
theorem dX5_tape_8 : decode cX5_tape 8 = .ok (.ifCond .eq 18, 3) := by decide +kernel
theorem dX5_tape_11 : decode cX5_tape 11 = .ok (.iload_n 2, 1) := by decide +kernel
theorem dX5_tape_12 : decode cX5_tape 12 = .ok (.iconst 4, 1) := by decide +kernel
theorem dX5_tape_13 : decode cX5_tape 13 = .ok (.sipush 200, 3) := by decide +kernel
theorem dX5_tape_16 : decode cX5_tape 16 = .ok (.invokestatic 81, 3) := by decide +kernel
theorem dX5_tape_19 : decode cX5_tape 19 = .ok (.ifCond .eq 7, 3) := by decide +kernel
theorem dX5_tape_22 : decode cX5_tape 22 = .ok (.iconst 1, 1) := by decide +kernel
theorem dX5_tape_23 : decode cX5_tape 23 = .ok (.goto 4, 3) := by decide +kernel
theorem dX5_tape_26 : decode cX5_tape 26 = .ok (.iconst 0, 1) := by decide +kernel
theorem dX5_tape_27 : decode cX5_tape 27 = .ok (.aload_n 0, 1) := by decide +kernel
theorem dX5_tape_28 : decode cX5_tape 28 = .ok (.getfield 78, 3) := by decide +kernel
theorem dX5_tape_31 : decode cX5_tape 31 = .ok (.bipush 8, 2) := by decide +kernel
theorem dX5_tape_33 : decode cX5_tape 33 = .ok (.if_icmp .ge 7, 3) := by decide +kernel
theorem dX5_tape_36 : decode cX5_tape 36 = .ok (.iconst 1, 1) := by decide +kernel
theorem dX5_tape_37 : decode cX5_tape 37 = .ok (.goto 4, 3) := by decide +kernel
theorem dX5_tape_40 : decode cX5_tape 40 = .ok (.iconst 0, 1) := by decide +kernel
theorem dX5_tape_41 : decode cX5_tape 41 = .ok (.invokevirtual 95, 3) := by decide +kernel
theorem dX5_tape_44 : decode cX5_tape 44 = .ok (.ifCond .ne 5, 3) := by decide +kernel
theorem dX5_tape_47 : decode cX5_tape 47 = .ok (.iconst 0, 1) := by decide +kernel
theorem dX5_tape_48 : decode cX5_tape 48 = .ok (.ireturn, 1) := by decide +kernel
theorem dX5_tape_49 : decode cX5_tape 49 = .ok (.iconst 0, 1) := by decide +kernel
theorem dX5_tape_50 : decode cX5_tape 50 = .ok (.istore_n 3, 1) := by decide +kernel
theorem dX5_tape_51 : decode cX5_tape 51 = .ok (.aload_n 0, 1) := by decide +kernel
theorem dX5_tape_52 : decode cX5_tape 52 = .ok (.iload_n 3, 1) := by decide +kernel
theorem dX5_tape_53 : decode cX5_tape 53 = .ok (.invokevirtual 99, 3) := by decide +kernel
theorem dX5_tape_56 : decode cX5_tape 56 = .ok (.ifCond .ne 9, 3) := by decide +kernel
theorem dX5_tape_59 : decode cX5_tape 59 = .ok (.iinc 3 1, 3) := by decide +kernel
theorem dX5_tape_62 : decode cX5_tape 62 = .ok (.goto (-11), 3) := by decide +kernel
theorem dX5_tape_65 : decode cX5_tape 65 = .ok (.aload_n 0, 1) := by decide +kernel
theorem dX5_tape_66 : decode cX5_tape 66 = .ok (.getfield 7, 3) := by decide +kernel
theorem dX5_tape_69 : decode cX5_tape 69 = .ok (.aload_n 0, 1) := by decide +kernel
theorem dX5_tape_70 : decode cX5_tape 70 = .ok (.getfield 78, 3) := by decide +kernel
theorem dX5_tape_73 : decode cX5_tape 73 = .ok (.iload_n 1, 1) := by decide +kernel
theorem dX5_tape_74 : decode cX5_tape 74 = .ok (.iastore, 1) := by decide +kernel
theorem dX5_tape_75 : decode cX5_tape 75 = .ok (.aload_n 0, 1) := by decide +kernel
theorem dX5_tape_76 : decode cX5_tape 76 = .ok (.getfield 13, 3) := by decide +kernel
theorem dX5_tape_79 : decode cX5_tape 79 = .ok (.aload_n 0, 1) := by decide +kernel
theorem dX5_tape_80 : decode cX5_tape 80 = .ok (.getfield 78, 3) := by decide +kernel
theorem dX5_tape_83 : decode cX5_tape 83 = .ok (.iload_n 2, 1) := by decide +kernel
theorem dX5_tape_84 : decode cX5_tape 84 = .ok (.iastore, 1) := by decide +kernel
theorem dX5_tape_85 : decode cX5_tape 85 = .ok (.aload_n 0, 1) := by decide +kernel
theorem dX5_tape_86 : decode cX5_tape 86 = .ok (.getfield 16, 3) := by decide +kernel
theorem dX5_tape_89 : decode cX5_tape 89 = .ok (.aload_n 0, 1) := by decide +kernel
theorem dX5_tape_90 : decode cX5_tape 90 = .ok (.getfield 78, 3) := by decide +kernel
theorem dX5_tape_93 : decode cX5_tape 93 = .ok (.iload_n 3, 1) := by decide +kernel
theorem dX5_tape_94 : decode cX5_tape 94 = .ok (.iastore, 1) := by decide +kernel
theorem dX5_tape_95 : decode cX5_tape 95 = .ok (.aload_n 0, 1) := by decide +kernel
theorem dX5_tape_96 : decode cX5_tape 96 = .ok (.getfield 19, 3) := by decide +kernel
theorem dX5_tape_99 : decode cX5_tape 99 = .ok (.aload_n 0, 1) := by decide +kernel
theorem dX5_tape_100 : decode cX5_tape 100 = .ok (.getfield 78, 3) := by decide +kernel
theorem dX5_tape_103 : decode cX5_tape 103 = .ok (.iconst (-1), 1) := by decide +kernel
theorem dX5_tape_104 : decode cX5_tape 104 = .ok (.iastore, 1) := by decide +kernel
theorem dX5_tape_105 : decode cX5_tape 105 = .ok (.aload_n 0, 1) := by decide +kernel
theorem dX5_tape_106 : decode cX5_tape 106 = .ok (.dup, 1) := by decide +kernel
theorem dX5_tape_107 : decode cX5_tape 107 = .ok (.getfield 78, 3) := by decide +kernel
theorem dX5_tape_110 : decode cX5_tape 110 = .ok (.iconst 1, 1) := by decide +kernel
theorem dX5_tape_111 : decode cX5_tape 111 = .ok (.iadd, 1) := by decide +kernel
theorem dX5_tape_112 : decode cX5_tape 112 = .ok (.putfield 78, 3) := by decide +kernel
theorem dX5_tape_115 : decode cX5_tape 115 = .ok (.aload_n 0, 1) := by decide +kernel
theorem dX5_tape_116 : decode cX5_tape 116 = .ok (.getfield 78, 3) := by decide +kernel
theorem dX5_tape_119 : decode cX5_tape 119 = .ok (.iconst 1, 1) := by decide +kernel
theorem dX5_tape_120 : decode cX5_tape 120 = .ok (.isub, 1) := by decide +kernel
theorem dX5_tape_121 : decode cX5_tape 121 = .ok (.ireturn, 1) := by decide +kernel
set_option maxRecDepth 20000 in
theorem ggX5_carry_X5_isTape : GoodIn wsX5_carry wsX5_isTape := goodIn_r _ [7, 8, 9, 10, 6, 11, 21, 22, 23, 24, 25, 26, 27, 28, 29, 30, 31, 32, 33, 34, 35, 36, 37, 38, 39, 40, 41, 42, 43, 44, 45, 46] (by decide +kernel) (by decide +kernel)
set_option maxRecDepth 20000 in
theorem gX5_carry_X5_isTape : GoodIn wsX5_carry (wsV RX5 88 RX5 yX5_isTape wsX5_isTape) := goodIn_app (goodIn_of _ (by decide +kernel)) ggX5_carry_X5_isTape
set_option maxRecDepth 20000 in
theorem ggX5_carry_X5_isIn : GoodIn wsX5_carry wsX5_isIn := goodIn_r _ [11] (by decide +kernel) (by decide +kernel)
set_option maxRecDepth 20000 in
theorem gX5_carry_X5_isIn : GoodIn wsX5_carry (va_wsS RX5 81 yX5_isIn wsX5_isIn) := goodIn_app (goodIn_of _ (by decide +kernel)) ggX5_carry_X5_isIn
set_option maxRecDepth 20000 in
theorem ggX5_carry_X5_isFree : GoodIn wsX5_carry wsX5_isFree := goodIn_r _ [15, 8, 2, 21, 22, 23, 24, 25, 26, 27, 28, 29, 30, 31, 32, 33, 34, 35, 36, 37, 38, 39, 40, 41, 42, 43, 44, 45, 46] (by decide +kernel) (by decide +kernel)
set_option maxRecDepth 20000 in
theorem gX5_carry_X5_isFree : GoodIn wsX5_carry (wsV RX5 99 RX5 yX5_isFree wsX5_isFree) := goodIn_app (goodIn_of _ (by decide +kernel)) ggX5_carry_X5_isFree
set_option maxRecDepth 20000 in
theorem ggX5_carry_X5_mayBoth : GoodIn wsX5_carry wsX5_mayBoth := goodIn_r _ [19, 20, 21, 22, 23, 24, 25, 26, 27, 28, 29, 30, 31, 32, 33, 34, 35, 36, 37, 38, 39, 40, 41, 42, 43, 44, 45, 46] (by decide +kernel) (by decide +kernel)
set_option maxRecDepth 20000 in
theorem gX5_carry_X5_mayBoth : GoodIn wsX5_carry (wsV RX5 95 RX5 yX5_mayBoth wsX5_mayBoth) := goodIn_app (goodIn_of _ (by decide +kernel)) ggX5_carry_X5_mayBoth
theorem dX5_carry_0 : decode cX5_carry 0 = .ok (.aload_n 0, 1) := by decide +kernel
theorem dX5_carry_1 : decode cX5_carry 1 = .ok (.iload_n 1, 1) := by decide +kernel
theorem dX5_carry_2 : decode cX5_carry 2 = .ok (.invokevirtual 88, 3) := by decide +kernel
theorem dX5_carry_5 : decode cX5_carry 5 = .ok (.ifCond .eq 17, 3) := by decide +kernel
theorem dX5_carry_8 : decode cX5_carry 8 = .ok (.iload_n 2, 1) := by decide +kernel
theorem dX5_carry_9 : decode cX5_carry 9 = .ok (.iconst 0, 1) := by decide +kernel
theorem dX5_carry_10 : decode cX5_carry 10 = .ok (.bipush 11, 2) := by decide +kernel
theorem dX5_carry_12 : decode cX5_carry 12 = .ok (.invokestatic 81, 3) := by decide +kernel
theorem dX5_carry_15 : decode cX5_carry 15 = .ok (.ifCond .eq 7, 3) := by decide +kernel
theorem dX5_carry_18 : decode cX5_carry 18 = .ok (.iconst 1, 1) := by decide +kernel
theorem dX5_carry_19 : decode cX5_carry 19 = .ok (.goto 4, 3) := by decide +kernel
theorem dX5_carry_22 : decode cX5_carry 22 = .ok (.iconst 0, 1) := by decide +kernel
theorem dX5_carry_23 : decode cX5_carry 23 = .ok (.istore_n 3, 1) := by decide +kernel
theorem dX5_carry_24 : decode cX5_carry 24 = .ok (.aload_n 0, 1) := by decide +kernel
theorem dX5_carry_25 : decode cX5_carry 25 = .ok (.iload_n 3, 1) := by decide +kernel
theorem dX5_carry_26 : decode cX5_carry 26 = .ok (.iload_n 3, 1) := by decide +kernel
theorem dX5_carry_27 : decode cX5_carry 27 = .ok (.ifCond .eq 25, 3) := by decide +kernel
theorem dX5_carry_30 : decode cX5_carry 30 = .ok (.aload_n 0, 1) := by decide +kernel
theorem dX5_carry_31 : decode cX5_carry 31 = .ok (.getfield 19, 3) := by decide +kernel
theorem dX5_carry_34 : decode cX5_carry 34 = .ok (.iload_n 1, 1) := by decide +kernel
theorem dX5_carry_35 : decode cX5_carry 35 = .ok (.iaload, 1) := by decide +kernel
theorem dX5_carry_36 : decode cX5_carry 36 = .ok (.iconst (-1), 1) := by decide +kernel
theorem dX5_carry_37 : decode cX5_carry 37 = .ok (.if_icmp .ne 15, 3) := by decide +kernel
theorem dX5_carry_40 : decode cX5_carry 40 = .ok (.aload_n 0, 1) := by decide +kernel
theorem dX5_carry_41 : decode cX5_carry 41 = .ok (.iload_n 2, 1) := by decide +kernel
theorem dX5_carry_42 : decode cX5_carry 42 = .ok (.invokevirtual 99, 3) := by decide +kernel
theorem dX5_carry_45 : decode cX5_carry 45 = .ok (.ifCond .eq 7, 3) := by decide +kernel
theorem dX5_carry_48 : decode cX5_carry 48 = .ok (.iconst 1, 1) := by decide +kernel
theorem dX5_carry_49 : decode cX5_carry 49 = .ok (.goto 4, 3) := by decide +kernel
theorem dX5_carry_52 : decode cX5_carry 52 = .ok (.iconst 0, 1) := by decide +kernel
theorem dX5_carry_53 : decode cX5_carry 53 = .ok (.invokevirtual 95, 3) := by decide +kernel
theorem dX5_carry_56 : decode cX5_carry 56 = .ok (.ifCond .ne 5, 3) := by decide +kernel
theorem dX5_carry_59 : decode cX5_carry 59 = .ok (.iconst 0, 1) := by decide +kernel
theorem dX5_carry_60 : decode cX5_carry 60 = .ok (.ireturn, 1) := by decide +kernel
theorem dX5_carry_61 : decode cX5_carry 61 = .ok (.aload_n 0, 1) := by decide +kernel
theorem dX5_carry_62 : decode cX5_carry 62 = .ok (.getfield 16, 3) := by decide +kernel
theorem dX5_carry_65 : decode cX5_carry 65 = .ok (.iload_n 1, 1) := by decide +kernel
theorem dX5_carry_66 : decode cX5_carry 66 = .ok (.iaload, 1) := by decide +kernel
theorem dX5_carry_67 : decode cX5_carry 67 = .ok (.istore 4, 2) := by decide +kernel
theorem dX5_carry_69 : decode cX5_carry 69 = .ok (.aload_n 0, 1) := by decide +kernel
theorem dX5_carry_70 : decode cX5_carry 70 = .ok (.getfield 16, 3) := by decide +kernel
theorem dX5_carry_73 : decode cX5_carry 73 = .ok (.iload_n 1, 1) := by decide +kernel
theorem dX5_carry_74 : decode cX5_carry 74 = .ok (.iload_n 2, 1) := by decide +kernel
theorem dX5_carry_75 : decode cX5_carry 75 = .ok (.iastore, 1) := by decide +kernel
theorem dX5_carry_76 : decode cX5_carry 76 = .ok (.iload 4, 2) := by decide +kernel
theorem dX5_carry_78 : decode cX5_carry 78 = .ok (.ireturn, 1) := by decide +kernel
set_option maxRecDepth 20000 in
theorem ggX5_placeOf_X5_isTape : GoodIn wsX5_placeOf wsX5_isTape := goodIn_r _ [7, 8, 9, 10, 6, 11, 17, 18, 19, 20, 21, 22, 23, 24, 25, 26, 27, 28, 29, 30, 31, 32, 33, 34, 35, 36, 37, 38, 39, 40, 41, 42] (by decide +kernel) (by decide +kernel)
set_option maxRecDepth 20000 in
theorem gX5_placeOf_X5_isTape : GoodIn wsX5_placeOf (wsV RX5 88 RX5 yX5_isTape wsX5_isTape) := goodIn_app (goodIn_of _ (by decide +kernel)) ggX5_placeOf_X5_isTape
set_option maxRecDepth 20000 in
theorem ggX5_placeOf_X5_may : GoodIn wsX5_placeOf wsX5_may := goodIn_r _ [15, 16, 17, 18, 19, 20, 21, 22, 23, 24, 25, 26, 27, 28, 29, 30, 31, 32, 33, 34, 35, 36, 37, 38, 39, 40, 41, 42] (by decide +kernel) (by decide +kernel)
set_option maxRecDepth 20000 in
theorem gX5_placeOf_X5_may : GoodIn wsX5_placeOf (wsV RX5 102 RX5 yX5_may wsX5_may) := goodIn_app (goodIn_of _ (by decide +kernel)) ggX5_placeOf_X5_may
theorem dX5_placeOf_0 : decode cX5_placeOf 0 = .ok (.aload_n 0, 1) := by decide +kernel
theorem dX5_placeOf_1 : decode cX5_placeOf 1 = .ok (.aload_n 0, 1) := by decide +kernel
theorem dX5_placeOf_2 : decode cX5_placeOf 2 = .ok (.iload_n 1, 1) := by decide +kernel
theorem dX5_placeOf_3 : decode cX5_placeOf 3 = .ok (.invokevirtual 88, 3) := by decide +kernel
theorem dX5_placeOf_6 : decode cX5_placeOf 6 = .ok (.invokevirtual 102, 3) := by decide +kernel
theorem dX5_placeOf_9 : decode cX5_placeOf 9 = .ok (.ifCond .ne 5, 3) := by decide +kernel
theorem dX5_placeOf_12 : decode cX5_placeOf 12 = .ok (.iconst 0, 1) := by decide +kernel
theorem dX5_placeOf_13 : decode cX5_placeOf 13 = .ok (.ireturn, 1) := by decide +kernel
theorem dX5_placeOf_14 : decode cX5_placeOf 14 = .ok (.aload_n 0, 1) := by decide +kernel
theorem dX5_placeOf_15 : decode cX5_placeOf 15 = .ok (.getfield 19, 3) := by decide +kernel
theorem dX5_placeOf_18 : decode cX5_placeOf 18 = .ok (.iload_n 1, 1) := by decide +kernel
theorem dX5_placeOf_19 : decode cX5_placeOf 19 = .ok (.iaload, 1) := by decide +kernel
theorem dX5_placeOf_20 : decode cX5_placeOf 20 = .ok (.iconst (-1), 1) := by decide +kernel
theorem dX5_placeOf_21 : decode cX5_placeOf 21 = .ok (.if_icmp .ne 12, 3) := by decide +kernel
theorem dX5_placeOf_24 : decode cX5_placeOf 24 = .ok (.aload_n 0, 1) := by decide +kernel
theorem dX5_placeOf_25 : decode cX5_placeOf 25 = .ok (.getfield 16, 3) := by decide +kernel
theorem dX5_placeOf_28 : decode cX5_placeOf 28 = .ok (.iload_n 1, 1) := by decide +kernel
theorem dX5_placeOf_29 : decode cX5_placeOf 29 = .ok (.iaload, 1) := by decide +kernel
theorem dX5_placeOf_30 : decode cX5_placeOf 30 = .ok (.goto 11, 3) := by decide +kernel
theorem dX5_placeOf_33 : decode cX5_placeOf 33 = .ok (.iconst (-1), 1) := by decide +kernel
theorem dX5_placeOf_34 : decode cX5_placeOf 34 = .ok (.aload_n 0, 1) := by decide +kernel
theorem dX5_placeOf_35 : decode cX5_placeOf 35 = .ok (.getfield 19, 3) := by decide +kernel
theorem dX5_placeOf_38 : decode cX5_placeOf 38 = .ok (.iload_n 1, 1) := by decide +kernel
theorem dX5_placeOf_39 : decode cX5_placeOf 39 = .ok (.iaload, 1) := by decide +kernel
theorem dX5_placeOf_40 : decode cX5_placeOf 40 = .ok (.isub, 1) := by decide +kernel
theorem dX5_placeOf_41 : decode cX5_placeOf 41 = .ok (.ireturn, 1) := by decide +kernel
set_option maxRecDepth 20000 in
theorem ggX5_files_X5_isTape : GoodIn wsX5_files wsX5_isTape := goodIn_r _ [6, 7, 8, 9, 5, 10, 16, 17, 18, 19, 20, 21, 22, 23, 24, 25, 26, 27, 28, 29, 30, 31, 32, 33, 34, 35, 36, 37, 38, 39, 40, 41] (by decide +kernel) (by decide +kernel)
set_option maxRecDepth 20000 in
theorem gX5_files_X5_isTape : GoodIn wsX5_files (wsV RX5 88 RX5 yX5_isTape wsX5_isTape) := goodIn_app (goodIn_of _ (by decide +kernel)) ggX5_files_X5_isTape
set_option maxRecDepth 20000 in
theorem ggX5_files_X5_may : GoodIn wsX5_files wsX5_may := goodIn_r _ [14, 15, 16, 17, 18, 19, 20, 21, 22, 23, 24, 25, 26, 27, 28, 29, 30, 31, 32, 33, 34, 35, 36, 37, 38, 39, 40, 41] (by decide +kernel) (by decide +kernel)
set_option maxRecDepth 20000 in
theorem gX5_files_X5_may : GoodIn wsX5_files (wsV RX5 102 RX5 yX5_may wsX5_may) := goodIn_app (goodIn_of _ (by decide +kernel)) ggX5_files_X5_may
theorem dX5_files_0 : decode cX5_files 0 = .ok (.aload_n 0, 1) := by decide +kernel
theorem dX5_files_1 : decode cX5_files 1 = .ok (.aload_n 0, 1) := by decide +kernel
theorem dX5_files_2 : decode cX5_files 2 = .ok (.iload_n 1, 1) := by decide +kernel
theorem dX5_files_3 : decode cX5_files 3 = .ok (.invokevirtual 88, 3) := by decide +kernel
theorem dX5_files_6 : decode cX5_files 6 = .ok (.invokevirtual 102, 3) := by decide +kernel
theorem dX5_files_9 : decode cX5_files 9 = .ok (.ifCond .eq 12, 3) := by decide +kernel
theorem dX5_files_12 : decode cX5_files 12 = .ok (.aload_n 0, 1) := by decide +kernel
theorem dX5_files_13 : decode cX5_files 13 = .ok (.getfield 26, 3) := by decide +kernel
theorem dX5_files_16 : decode cX5_files 16 = .ok (.iload_n 1, 1) := by decide +kernel
theorem dX5_files_17 : decode cX5_files 17 = .ok (.iaload, 1) := by decide +kernel
theorem dX5_files_18 : decode cX5_files 18 = .ok (.goto 4, 3) := by decide +kernel
theorem dX5_files_21 : decode cX5_files 21 = .ok (.iconst 0, 1) := by decide +kernel
theorem dX5_files_22 : decode cX5_files 22 = .ok (.ireturn, 1) := by decide +kernel
set_option maxRecDepth 20000 in
theorem ggX5_start_X5_isFile : GoodIn wsX5_start wsX5_isFile := goodIn_r _ [6, 7, 8, 9, 10, 5, 11, 12, 13, 14, 15, 21, 22, 23, 24, 25, 26, 27, 28, 29, 30, 31, 32, 33, 34, 35, 36, 37, 38, 39, 40, 41, 42, 43, 44, 45, 46] (by decide +kernel) (by decide +kernel)
set_option maxRecDepth 20000 in
theorem gX5_start_X5_isFile : GoodIn wsX5_start (wsV RX5 106 RX5 yX5_isFile wsX5_isFile) := goodIn_app (goodIn_of _ (by decide +kernel)) ggX5_start_X5_isFile
set_option maxRecDepth 20000 in
theorem ggX5_start_X5_may : GoodIn wsX5_start wsX5_may := goodIn_r _ [19, 20, 21, 22, 23, 24, 25, 26, 27, 28, 29, 30, 31, 32, 33, 34, 35, 36, 37, 38, 39, 40, 41, 42, 43, 44, 45, 46] (by decide +kernel) (by decide +kernel)
set_option maxRecDepth 20000 in
theorem gX5_start_X5_may : GoodIn wsX5_start (wsV RX5 102 RX5 yX5_may wsX5_may) := goodIn_app (goodIn_of _ (by decide +kernel)) ggX5_start_X5_may
theorem dX5_start_0 : decode cX5_start 0 = .ok (.aload_n 0, 1) := by decide +kernel
theorem dX5_start_1 : decode cX5_start 1 = .ok (.aload_n 0, 1) := by decide +kernel
theorem dX5_start_2 : decode cX5_start 2 = .ok (.iload_n 1, 1) := by decide +kernel
theorem dX5_start_3 : decode cX5_start 3 = .ok (.iload_n 2, 1) := by decide +kernel
theorem dX5_start_4 : decode cX5_start 4 = .ok (.invokevirtual 106, 3) := by decide +kernel
theorem dX5_start_7 : decode cX5_start 7 = .ok (.invokevirtual 102, 3) := by decide +kernel
theorem dX5_start_10 : decode cX5_start 10 = .ok (.ifCond .eq 17, 3) := by decide +kernel
theorem dX5_start_13 : decode cX5_start 13 = .ok (.aload_n 0, 1) := by decide +kernel
theorem dX5_start_14 : decode cX5_start 14 = .ok (.getfield 29, 3) := by decide +kernel
theorem dX5_start_17 : decode cX5_start 17 = .ok (.bipush 10, 2) := by decide +kernel
theorem dX5_start_19 : decode cX5_start 19 = .ok (.iload_n 1, 1) := by decide +kernel
theorem dX5_start_20 : decode cX5_start 20 = .ok (.imul, 1) := by decide +kernel
theorem dX5_start_21 : decode cX5_start 21 = .ok (.iload_n 2, 1) := by decide +kernel
theorem dX5_start_22 : decode cX5_start 22 = .ok (.iadd, 1) := by decide +kernel
theorem dX5_start_23 : decode cX5_start 23 = .ok (.iaload, 1) := by decide +kernel
theorem dX5_start_24 : decode cX5_start 24 = .ok (.goto 4, 3) := by decide +kernel
theorem dX5_start_27 : decode cX5_start 27 = .ok (.iconst 0, 1) := by decide +kernel
theorem dX5_start_28 : decode cX5_start 28 = .ok (.ireturn, 1) := by decide +kernel
theorem dX5_trackOf_0 : decode cX5_trackOf 0 = .ok (.iload_n 2, 1) := by decide +kernel
theorem dX5_trackOf_1 : decode cX5_trackOf 1 = .ok (.aload_n 0, 1) := by decide +kernel
theorem dX5_trackOf_2 : decode cX5_trackOf 2 = .ok (.getfield 13, 3) := by decide +kernel
theorem dX5_trackOf_5 : decode cX5_trackOf 5 = .ok (.iload_n 1, 1) := by decide +kernel
theorem dX5_trackOf_6 : decode cX5_trackOf 6 = .ok (.iaload, 1) := by decide +kernel
theorem dX5_trackOf_7 : decode cX5_trackOf 7 = .ok (.idiv, 1) := by decide +kernel
theorem dX5_trackOf_8 : decode cX5_trackOf 8 = .ok (.ireturn, 1) := by decide +kernel
set_option maxRecDepth 20000 in
theorem ggX5_alongOf_X5_trackOf : GoodIn wsX5_alongOf wsX5_trackOf := goodIn_r _ [6, 1, 7, 8, 9, 10, 11, 12, 13, 14, 15, 16, 17, 18, 19, 20, 21, 22, 23, 24, 25, 26, 27, 28, 29, 30, 31, 32] (by decide +kernel) (by decide +kernel)
set_option maxRecDepth 20000 in
theorem gX5_alongOf_X5_trackOf : GoodIn wsX5_alongOf (wsV RX5 110 RX5 yX5_trackOf wsX5_trackOf) := goodIn_app (goodIn_of _ (by decide +kernel)) ggX5_alongOf_X5_trackOf
theorem dX5_alongOf_0 : decode cX5_alongOf 0 = .ok (.iload_n 2, 1) := by decide +kernel
theorem dX5_alongOf_1 : decode cX5_alongOf 1 = .ok (.aload_n 0, 1) := by decide +kernel
theorem dX5_alongOf_2 : decode cX5_alongOf 2 = .ok (.getfield 13, 3) := by decide +kernel
theorem dX5_alongOf_5 : decode cX5_alongOf 5 = .ok (.iload_n 1, 1) := by decide +kernel
theorem dX5_alongOf_6 : decode cX5_alongOf 6 = .ok (.iaload, 1) := by decide +kernel
theorem dX5_alongOf_7 : decode cX5_alongOf 7 = .ok (.irem, 1) := by decide +kernel
theorem dX5_alongOf_8 : decode cX5_alongOf 8 = .ok (.istore_n 3, 1) := by decide +kernel
theorem dX5_alongOf_9 : decode cX5_alongOf 9 = .ok (.aload_n 0, 1) := by decide +kernel
theorem dX5_alongOf_10 : decode cX5_alongOf 10 = .ok (.iload_n 1, 1) := by decide +kernel
theorem dX5_alongOf_11 : decode cX5_alongOf 11 = .ok (.iload_n 2, 1) := by decide +kernel
theorem dX5_alongOf_12 : decode cX5_alongOf 12 = .ok (.invokevirtual 110, 3) := by decide +kernel
theorem dX5_alongOf_15 : decode cX5_alongOf 15 = .ok (.iconst 2, 1) := by decide +kernel
theorem dX5_alongOf_16 : decode cX5_alongOf 16 = .ok (.irem, 1) := by decide +kernel
theorem dX5_alongOf_17 : decode cX5_alongOf 17 = .ok (.ifCond .ne 7, 3) := by decide +kernel
theorem dX5_alongOf_20 : decode cX5_alongOf 20 = .ok (.iload_n 3, 1) := by decide +kernel
theorem dX5_alongOf_21 : decode cX5_alongOf 21 = .ok (.goto 13, 3) := by decide +kernel
theorem dX5_alongOf_24 : decode cX5_alongOf 24 = .ok (.aload_n 0, 1) := by decide +kernel
theorem dX5_alongOf_25 : decode cX5_alongOf 25 = .ok (.getfield 13, 3) := by decide +kernel
theorem dX5_alongOf_28 : decode cX5_alongOf 28 = .ok (.iload_n 1, 1) := by decide +kernel
theorem dX5_alongOf_29 : decode cX5_alongOf 29 = .ok (.iaload, 1) := by decide +kernel
theorem dX5_alongOf_30 : decode cX5_alongOf 30 = .ok (.iconst 1, 1) := by decide +kernel
theorem dX5_alongOf_31 : decode cX5_alongOf 31 = .ok (.isub, 1) := by decide +kernel
theorem dX5_alongOf_32 : decode cX5_alongOf 32 = .ok (.iload_n 3, 1) := by decide +kernel
theorem dX5_alongOf_33 : decode cX5_alongOf 33 = .ok (.isub, 1) := by decide +kernel
theorem dX5_alongOf_34 : decode cX5_alongOf 34 = .ok (.ireturn, 1) := by decide +kernel
set_option maxRecDepth 20000 in
theorem ggX5_along_X5_isTape : GoodIn wsX5_along wsX5_isTape := goodIn_r _ [7, 8, 9, 10, 6, 11, 25, 26, 27, 28, 29, 30, 31, 32, 33, 34, 35, 36, 37, 38, 39, 40, 41, 42, 43, 44, 45, 46, 47, 48, 49, 50] (by decide +kernel) (by decide +kernel)
set_option maxRecDepth 20000 in
theorem gX5_along_X5_isTape : GoodIn wsX5_along (wsV RX5 88 RX5 yX5_isTape wsX5_isTape) := goodIn_app (goodIn_of _ (by decide +kernel)) ggX5_along_X5_isTape
set_option maxRecDepth 20000 in
theorem ggX5_along_X5_may : GoodIn wsX5_along wsX5_may := goodIn_r _ [15, 16, 25, 26, 27, 28, 29, 30, 31, 32, 33, 34, 35, 36, 37, 38, 39, 40, 41, 42, 43, 44, 45, 46, 47, 48, 49, 50] (by decide +kernel) (by decide +kernel)
set_option maxRecDepth 20000 in
theorem gX5_along_X5_may : GoodIn wsX5_along (wsV RX5 102 RX5 yX5_may wsX5_may) := goodIn_app (goodIn_of _ (by decide +kernel)) ggX5_along_X5_may
set_option maxRecDepth 20000 in
theorem ggX5_along_X5_alongOf : GoodIn wsX5_along wsX5_alongOf := goodIn_r _ [20, 2, 21, 22, 23, 6, 24, 25, 26, 27, 28, 29, 30, 31, 32, 33, 34, 35, 36, 37, 38, 39, 40, 41, 42, 43, 44, 45, 46, 47, 48, 49, 50] (by decide +kernel) (by decide +kernel)
set_option maxRecDepth 20000 in
theorem gX5_along_X5_alongOf : GoodIn wsX5_along (wsV RX5 114 RX5 yX5_alongOf wsX5_alongOf) := goodIn_app (goodIn_of _ (by decide +kernel)) ggX5_along_X5_alongOf
theorem dX5_along_0 : decode cX5_along 0 = .ok (.aload_n 0, 1) := by decide +kernel
theorem dX5_along_1 : decode cX5_along 1 = .ok (.aload_n 0, 1) := by decide +kernel
theorem dX5_along_2 : decode cX5_along 2 = .ok (.iload_n 1, 1) := by decide +kernel
theorem dX5_along_3 : decode cX5_along 3 = .ok (.invokevirtual 88, 3) := by decide +kernel
theorem dX5_along_6 : decode cX5_along 6 = .ok (.ifCond .eq 28, 3) := by decide +kernel
theorem dX5_along_9 : decode cX5_along 9 = .ok (.iload_n 2, 1) := by decide +kernel
theorem dX5_along_10 : decode cX5_along 10 = .ok (.ifCond .lt 24, 3) := by decide +kernel
theorem dX5_along_13 : decode cX5_along 13 = .ok (.iload_n 2, 1) := by decide +kernel
theorem dX5_along_14 : decode cX5_along 14 = .ok (.aload_n 0, 1) := by decide +kernel
theorem dX5_along_15 : decode cX5_along 15 = .ok (.getfield 7, 3) := by decide +kernel
theorem dX5_along_18 : decode cX5_along 18 = .ok (.iload_n 1, 1) := by decide +kernel
theorem dX5_along_19 : decode cX5_along 19 = .ok (.iaload, 1) := by decide +kernel
theorem dX5_along_20 : decode cX5_along 20 = .ok (.aload_n 0, 1) := by decide +kernel
theorem dX5_along_21 : decode cX5_along 21 = .ok (.getfield 13, 3) := by decide +kernel
theorem dX5_along_24 : decode cX5_along 24 = .ok (.iload_n 1, 1) := by decide +kernel
theorem dX5_along_25 : decode cX5_along 25 = .ok (.iaload, 1) := by decide +kernel
theorem dX5_along_26 : decode cX5_along 26 = .ok (.imul, 1) := by decide +kernel
theorem dX5_along_27 : decode cX5_along 27 = .ok (.if_icmp .ge 7, 3) := by decide +kernel
theorem dX5_along_30 : decode cX5_along 30 = .ok (.iconst 1, 1) := by decide +kernel
theorem dX5_along_31 : decode cX5_along 31 = .ok (.goto 4, 3) := by decide +kernel
theorem dX5_along_34 : decode cX5_along 34 = .ok (.iconst 0, 1) := by decide +kernel
theorem dX5_along_35 : decode cX5_along 35 = .ok (.invokevirtual 102, 3) := by decide +kernel
theorem dX5_along_38 : decode cX5_along 38 = .ok (.ifCond .eq 12, 3) := by decide +kernel
theorem dX5_along_41 : decode cX5_along 41 = .ok (.aload_n 0, 1) := by decide +kernel
theorem dX5_along_42 : decode cX5_along 42 = .ok (.iload_n 1, 1) := by decide +kernel
theorem dX5_along_43 : decode cX5_along 43 = .ok (.iload_n 2, 1) := by decide +kernel
theorem dX5_along_44 : decode cX5_along 44 = .ok (.invokevirtual 114, 3) := by decide +kernel
theorem dX5_along_47 : decode cX5_along 47 = .ok (.goto 4, 3) := by decide +kernel
theorem dX5_along_50 : decode cX5_along 50 = .ok (.iconst 0, 1) := by decide +kernel
theorem dX5_along_51 : decode cX5_along 51 = .ok (.ireturn, 1) := by decide +kernel
set_option maxRecDepth 20000 in
theorem ggX5_drive_X5_isIn : GoodIn wsX5_drive wsX5_isIn := goodIn_r _ [7] (by decide +kernel) (by decide +kernel)
set_option maxRecDepth 20000 in
theorem gX5_drive_X5_isIn : GoodIn wsX5_drive (va_wsS RX5 81 yX5_isIn wsX5_isIn) := goodIn_app (goodIn_of _ (by decide +kernel)) ggX5_drive_X5_isIn
set_option maxRecDepth 20000 in
theorem ggX5_drive_X5_mayBoth : GoodIn wsX5_drive wsX5_mayBoth := goodIn_r _ [11, 12, 13, 14, 15, 16, 17, 18, 19, 20, 21, 22, 23, 24, 25, 26, 27, 28, 29, 30, 31, 32, 33, 34, 35, 36, 37, 38] (by decide +kernel) (by decide +kernel)
set_option maxRecDepth 20000 in
theorem gX5_drive_X5_mayBoth : GoodIn wsX5_drive (wsV RX5 95 RX5 yX5_mayBoth wsX5_mayBoth) := goodIn_app (goodIn_of _ (by decide +kernel)) ggX5_drive_X5_mayBoth
theorem dX5_drive_0 : decode cX5_drive 0 = .ok (.aload_n 0, 1) := by decide +kernel
theorem dX5_drive_1 : decode cX5_drive 1 = .ok (.iload_n 1, 1) := by decide +kernel
theorem dX5_drive_2 : decode cX5_drive 2 = .ok (.iconst 0, 1) := by decide +kernel
theorem dX5_drive_3 : decode cX5_drive 3 = .ok (.iconst 1, 1) := by decide +kernel
theorem dX5_drive_4 : decode cX5_drive 4 = .ok (.invokestatic 81, 3) := by decide +kernel
theorem dX5_drive_7 : decode cX5_drive 7 = .ok (.aload_n 0, 1) := by decide +kernel
theorem dX5_drive_8 : decode cX5_drive 8 = .ok (.getfield 85, 3) := by decide +kernel
theorem dX5_drive_11 : decode cX5_drive 11 = .ok (.iconst 3, 1) := by decide +kernel
theorem dX5_drive_12 : decode cX5_drive 12 = .ok (.if_icmp .ge 7, 3) := by decide +kernel
theorem dX5_drive_15 : decode cX5_drive 15 = .ok (.iconst 1, 1) := by decide +kernel
theorem dX5_drive_16 : decode cX5_drive 16 = .ok (.goto 4, 3) := by decide +kernel
theorem dX5_drive_19 : decode cX5_drive 19 = .ok (.iconst 0, 1) := by decide +kernel
theorem dX5_drive_20 : decode cX5_drive 20 = .ok (.invokevirtual 95, 3) := by decide +kernel
theorem dX5_drive_23 : decode cX5_drive 23 = .ok (.ifCond .ne 5, 3) := by decide +kernel
theorem dX5_drive_26 : decode cX5_drive 26 = .ok (.iconst 0, 1) := by decide +kernel
theorem dX5_drive_27 : decode cX5_drive 27 = .ok (.ireturn, 1) := by decide +kernel
theorem dX5_drive_28 : decode cX5_drive 28 = .ok (.aload_n 0, 1) := by decide +kernel
theorem dX5_drive_29 : decode cX5_drive 29 = .ok (.getfield 35, 3) := by decide +kernel
theorem dX5_drive_32 : decode cX5_drive 32 = .ok (.aload_n 0, 1) := by decide +kernel
theorem dX5_drive_33 : decode cX5_drive 33 = .ok (.getfield 85, 3) := by decide +kernel
theorem dX5_drive_36 : decode cX5_drive 36 = .ok (.iload_n 1, 1) := by decide +kernel
theorem dX5_drive_37 : decode cX5_drive 37 = .ok (.iastore, 1) := by decide +kernel
theorem dX5_drive_38 : decode cX5_drive 38 = .ok (.aload_n 0, 1) := by decide +kernel
theorem dX5_drive_39 : decode cX5_drive 39 = .ok (.getfield 44, 3) := by decide +kernel
theorem dX5_drive_42 : decode cX5_drive 42 = .ok (.aload_n 0, 1) := by decide +kernel
theorem dX5_drive_43 : decode cX5_drive 43 = .ok (.getfield 85, 3) := by decide +kernel
theorem dX5_drive_46 : decode cX5_drive 46 = .ok (.iconst (-1), 1) := by decide +kernel
theorem dX5_drive_47 : decode cX5_drive 47 = .ok (.iastore, 1) := by decide +kernel
theorem dX5_drive_48 : decode cX5_drive 48 = .ok (.aload_n 0, 1) := by decide +kernel
theorem dX5_drive_49 : decode cX5_drive 49 = .ok (.dup, 1) := by decide +kernel
theorem dX5_drive_50 : decode cX5_drive 50 = .ok (.getfield 85, 3) := by decide +kernel
theorem dX5_drive_53 : decode cX5_drive 53 = .ok (.iconst 1, 1) := by decide +kernel
theorem dX5_drive_54 : decode cX5_drive 54 = .ok (.iadd, 1) := by decide +kernel
theorem dX5_drive_55 : decode cX5_drive 55 = .ok (.putfield 85, 3) := by decide +kernel
theorem dX5_drive_58 : decode cX5_drive 58 = .ok (.aload_n 0, 1) := by decide +kernel
theorem dX5_drive_59 : decode cX5_drive 59 = .ok (.getfield 85, 3) := by decide +kernel
theorem dX5_drive_62 : decode cX5_drive 62 = .ok (.iconst 1, 1) := by decide +kernel
theorem dX5_drive_63 : decode cX5_drive 63 = .ok (.isub, 1) := by decide +kernel
theorem dX5_drive_64 : decode cX5_drive 64 = .ok (.ireturn, 1) := by decide +kernel
set_option maxRecDepth 20000 in
theorem ggX5_way_X5_alongOf : GoodIn wsX5_way wsX5_alongOf := goodIn_r _ [9, 3, 10, 11, 12, 8, 13, 17, 18, 19, 20, 21, 22, 23, 24, 25, 26, 27, 28, 29, 30, 31, 32, 33, 34, 35, 36, 37, 38, 39, 40, 41, 42] (by decide +kernel) (by decide +kernel)
set_option maxRecDepth 20000 in
theorem gX5_way_X5_alongOf : GoodIn wsX5_way (wsV RX5 114 RX5 yX5_alongOf wsX5_alongOf) := goodIn_app (goodIn_of _ (by decide +kernel)) ggX5_way_X5_alongOf
set_option maxRecDepth 20000 in
theorem ggX5_way_X5_size : GoodIn wsX5_way wsX5_size := goodIn_r _ [16] (by decide +kernel) (by decide +kernel)
set_option maxRecDepth 20000 in
theorem gX5_way_X5_size : GoodIn wsX5_way (va_wsS RX5 117 yX5_size wsX5_size) := goodIn_app (goodIn_of _ (by decide +kernel)) ggX5_way_X5_size
set_option maxRecDepth 20000 in
theorem ggX5_way_X5_trackOf : GoodIn wsX5_way wsX5_trackOf := goodIn_r _ [13, 3, 17, 18, 19, 20, 21, 22, 23, 24, 25, 26, 27, 28, 29, 30, 31, 32, 33, 34, 35, 36, 37, 38, 39, 40, 41, 42] (by decide +kernel) (by decide +kernel)
set_option maxRecDepth 20000 in
theorem gX5_way_X5_trackOf : GoodIn wsX5_way (wsV RX5 110 RX5 yX5_trackOf wsX5_trackOf) := goodIn_app (goodIn_of _ (by decide +kernel)) ggX5_way_X5_trackOf
theorem dX5_way_0 : decode cX5_way 0 = .ok (.aload_n 0, 1) := by decide +kernel
theorem dX5_way_1 : decode cX5_way 1 = .ok (.getfield 44, 3) := by decide +kernel
theorem dX5_way_4 : decode cX5_way 4 = .ok (.iload_n 1, 1) := by decide +kernel
theorem dX5_way_5 : decode cX5_way 5 = .ok (.iaload, 1) := by decide +kernel
theorem dX5_way_6 : decode cX5_way 6 = .ok (.istore 4, 2) := by decide +kernel
theorem dX5_way_8 : decode cX5_way 8 = .ok (.aload_n 0, 1) := by decide +kernel
theorem dX5_way_9 : decode cX5_way 9 = .ok (.getfield 7, 3) := by decide +kernel
theorem dX5_way_12 : decode cX5_way 12 = .ok (.iload 4, 2) := by decide +kernel
theorem dX5_way_14 : decode cX5_way 14 = .ok (.iaload, 1) := by decide +kernel
theorem dX5_way_15 : decode cX5_way 15 = .ok (.aload_n 0, 1) := by decide +kernel
theorem dX5_way_16 : decode cX5_way 16 = .ok (.getfield 13, 3) := by decide +kernel
theorem dX5_way_19 : decode cX5_way 19 = .ok (.iload 4, 2) := by decide +kernel
theorem dX5_way_21 : decode cX5_way 21 = .ok (.iaload, 1) := by decide +kernel
theorem dX5_way_22 : decode cX5_way 22 = .ok (.imul, 1) := by decide +kernel
theorem dX5_way_23 : decode cX5_way 23 = .ok (.istore 5, 2) := by decide +kernel
theorem dX5_way_25 : decode cX5_way 25 = .ok (.iload_n 2, 1) := by decide +kernel
theorem dX5_way_26 : decode cX5_way 26 = .ok (.iload 5, 2) := by decide +kernel
theorem dX5_way_28 : decode cX5_way 28 = .ok (.if_icmp .ne 10, 3) := by decide +kernel
theorem dX5_way_31 : decode cX5_way 31 = .ok (.iload 5, 2) := by decide +kernel
theorem dX5_way_33 : decode cX5_way 33 = .ok (.iconst 1, 1) := by decide +kernel
theorem dX5_way_34 : decode cX5_way 34 = .ok (.isub, 1) := by decide +kernel
theorem dX5_way_35 : decode cX5_way 35 = .ok (.goto 4, 3) := by decide +kernel
theorem dX5_way_38 : decode cX5_way 38 = .ok (.iload_n 2, 1) := by decide +kernel
theorem dX5_way_39 : decode cX5_way 39 = .ok (.istore 6, 2) := by decide +kernel
theorem dX5_way_41 : decode cX5_way 41 = .ok (.iload_n 3, 1) := by decide +kernel
theorem dX5_way_42 : decode cX5_way 42 = .ok (.iload 5, 2) := by decide +kernel
theorem dX5_way_44 : decode cX5_way 44 = .ok (.if_icmp .ne 10, 3) := by decide +kernel
theorem dX5_way_47 : decode cX5_way 47 = .ok (.iload 5, 2) := by decide +kernel
theorem dX5_way_49 : decode cX5_way 49 = .ok (.iconst 1, 1) := by decide +kernel
theorem dX5_way_50 : decode cX5_way 50 = .ok (.isub, 1) := by decide +kernel
theorem dX5_way_51 : decode cX5_way 51 = .ok (.goto 4, 3) := by decide +kernel
theorem dX5_way_54 : decode cX5_way 54 = .ok (.iload_n 3, 1) := by decide +kernel
theorem dX5_way_55 : decode cX5_way 55 = .ok (.istore 7, 2) := by decide +kernel
theorem dX5_way_57 : decode cX5_way 57 = .ok (.aload_n 0, 1) := by decide +kernel
theorem dX5_way_58 : decode cX5_way 58 = .ok (.iload 4, 2) := by decide +kernel
theorem dX5_way_60 : decode cX5_way 60 = .ok (.iload 6, 2) := by decide +kernel
theorem dX5_way_62 : decode cX5_way 62 = .ok (.invokevirtual 114, 3) := by decide +kernel
theorem dX5_way_65 : decode cX5_way 65 = .ok (.aload_n 0, 1) := by decide +kernel
theorem dX5_way_66 : decode cX5_way 66 = .ok (.iload 4, 2) := by decide +kernel
theorem dX5_way_68 : decode cX5_way 68 = .ok (.iload 7, 2) := by decide +kernel
theorem dX5_way_70 : decode cX5_way 70 = .ok (.invokevirtual 114, 3) := by decide +kernel
theorem dX5_way_73 : decode cX5_way 73 = .ok (.isub, 1) := by decide +kernel
theorem dX5_way_74 : decode cX5_way 74 = .ok (.invokestatic 117, 3) := by decide +kernel
theorem dX5_way_77 : decode cX5_way 77 = .ok (.istore 8, 2) := by decide +kernel
theorem dX5_way_79 : decode cX5_way 79 = .ok (.aload_n 0, 1) := by decide +kernel
theorem dX5_way_80 : decode cX5_way 80 = .ok (.iload 4, 2) := by decide +kernel
theorem dX5_way_82 : decode cX5_way 82 = .ok (.iload 6, 2) := by decide +kernel
theorem dX5_way_84 : decode cX5_way 84 = .ok (.invokevirtual 110, 3) := by decide +kernel
theorem dX5_way_87 : decode cX5_way 87 = .ok (.aload_n 0, 1) := by decide +kernel
theorem dX5_way_88 : decode cX5_way 88 = .ok (.iload 4, 2) := by decide +kernel
theorem dX5_way_90 : decode cX5_way 90 = .ok (.iload 7, 2) := by decide +kernel
theorem dX5_way_92 : decode cX5_way 92 = .ok (.invokevirtual 110, 3) := by decide +kernel
theorem dX5_way_95 : decode cX5_way 95 = .ok (.isub, 1) := by decide +kernel
theorem dX5_way_96 : decode cX5_way 96 = .ok (.invokestatic 117, 3) := by decide +kernel
theorem dX5_way_99 : decode cX5_way 99 = .ok (.istore 9, 2) := by decide +kernel
theorem dX5_way_101 : decode cX5_way 101 = .ok (.aload_n 0, 1) := by decide +kernel
theorem dX5_way_102 : decode cX5_way 102 = .ok (.getfield 35, 3) := by decide +kernel
theorem dX5_way_105 : decode cX5_way 105 = .ok (.iload_n 1, 1) := by decide +kernel
theorem dX5_way_106 : decode cX5_way 106 = .ok (.iaload, 1) := by decide +kernel
theorem dX5_way_107 : decode cX5_way 107 = .ok (.ifCond .ne 14, 3) := by decide +kernel
theorem dX5_way_110 : decode cX5_way 110 = .ok (.iload 8, 2) := by decide +kernel
theorem dX5_way_112 : decode cX5_way 112 = .ok (.bipush 9, 2) := by decide +kernel
theorem dX5_way_114 : decode cX5_way 114 = .ok (.iload 9, 2) := by decide +kernel
theorem dX5_way_116 : decode cX5_way 116 = .ok (.imul, 1) := by decide +kernel
theorem dX5_way_117 : decode cX5_way 117 = .ok (.iadd, 1) := by decide +kernel
theorem dX5_way_118 : decode cX5_way 118 = .ok (.goto 10, 3) := by decide +kernel
theorem dX5_way_121 : decode cX5_way 121 = .ok (.iconst 2, 1) := by decide +kernel
theorem dX5_way_122 : decode cX5_way 122 = .ok (.iload 8, 2) := by decide +kernel
theorem dX5_way_124 : decode cX5_way 124 = .ok (.imul, 1) := by decide +kernel
theorem dX5_way_125 : decode cX5_way 125 = .ok (.iload 9, 2) := by decide +kernel
theorem dX5_way_127 : decode cX5_way 127 = .ok (.iadd, 1) := by decide +kernel
theorem dX5_way_128 : decode cX5_way 128 = .ok (.ireturn, 1) := by decide +kernel
set_option maxRecDepth 20000 in
theorem ggX5_robot_X5_size : GoodIn wsX5_robot wsX5_size := goodIn_r _ [5] (by decide +kernel) (by decide +kernel)
set_option maxRecDepth 20000 in
theorem gX5_robot_X5_size : GoodIn wsX5_robot (va_wsS RX5 117 yX5_size wsX5_size) := goodIn_app (goodIn_of _ (by decide +kernel)) ggX5_robot_X5_size
theorem dX5_robot_0 : decode cX5_robot 0 = .ok (.bipush 20, 2) := by decide +kernel
theorem dX5_robot_2 : decode cX5_robot 2 = .ok (.iconst 2, 1) := by decide +kernel
theorem dX5_robot_3 : decode cX5_robot 3 = .ok (.iconst 4, 1) := by decide +kernel
theorem dX5_robot_4 : decode cX5_robot 4 = .ok (.iload_n 1, 1) := by decide +kernel
theorem dX5_robot_5 : decode cX5_robot 5 = .ok (.imul, 1) := by decide +kernel
theorem dX5_robot_6 : decode cX5_robot 6 = .ok (.aload_n 0, 1) := by decide +kernel
theorem dX5_robot_7 : decode cX5_robot 7 = .ok (.getfield 16, 3) := by decide +kernel
theorem dX5_robot_10 : decode cX5_robot 10 = .ok (.iload_n 2, 1) := by decide +kernel
theorem dX5_robot_11 : decode cX5_robot 11 = .ok (.iaload, 1) := by decide +kernel
theorem dX5_robot_12 : decode cX5_robot 12 = .ok (.isub, 1) := by decide +kernel
theorem dX5_robot_13 : decode cX5_robot 13 = .ok (.invokestatic 117, 3) := by decide +kernel
theorem dX5_robot_16 : decode cX5_robot 16 = .ok (.imul, 1) := by decide +kernel
theorem dX5_robot_17 : decode cX5_robot 17 = .ok (.iadd, 1) := by decide +kernel
theorem dX5_robot_18 : decode cX5_robot 18 = .ok (.ireturn, 1) := by decide +kernel
set_option maxRecDepth 20000 in
theorem ggX5_mount_X5_isDrive : GoodIn wsX5_mount wsX5_isDrive := goodIn_r _ [10, 11, 12, 13, 9, 14, 33, 34, 35, 36, 37, 38, 39, 40, 41, 42, 43, 44, 45, 46, 47, 48, 49, 50, 51, 52, 53, 54, 55, 56, 57, 58] (by decide +kernel) (by decide +kernel)
set_option maxRecDepth 20000 in
theorem gX5_mount_X5_isDrive : GoodIn wsX5_mount (wsV RX5 92 RX5 yX5_isDrive wsX5_isDrive) := goodIn_app (goodIn_of _ (by decide +kernel)) ggX5_mount_X5_isDrive
set_option maxRecDepth 20000 in
theorem ggX5_mount_X5_isTape : GoodIn wsX5_mount wsX5_isTape := goodIn_r _ [18, 19, 12, 13, 9, 14, 33, 34, 35, 36, 37, 38, 39, 40, 41, 42, 43, 44, 45, 46, 47, 48, 49, 50, 51, 52, 53, 54, 55, 56, 57, 58] (by decide +kernel) (by decide +kernel)
set_option maxRecDepth 20000 in
theorem gX5_mount_X5_isTape : GoodIn wsX5_mount (wsV RX5 88 RX5 yX5_isTape wsX5_isTape) := goodIn_app (goodIn_of _ (by decide +kernel)) ggX5_mount_X5_isTape
set_option maxRecDepth 20000 in
theorem ggX5_mount_X5_mayBoth : GoodIn wsX5_mount wsX5_mayBoth := goodIn_r _ [23, 24, 33, 34, 35, 36, 37, 38, 39, 40, 41, 42, 43, 44, 45, 46, 47, 48, 49, 50, 51, 52, 53, 54, 55, 56, 57, 58] (by decide +kernel) (by decide +kernel)
set_option maxRecDepth 20000 in
theorem gX5_mount_X5_mayBoth : GoodIn wsX5_mount (wsV RX5 95 RX5 yX5_mayBoth wsX5_mayBoth) := goodIn_app (goodIn_of _ (by decide +kernel)) ggX5_mount_X5_mayBoth
set_option maxRecDepth 20000 in
theorem ggX5_mount_X5_robot : GoodIn wsX5_mount wsX5_robot := goodIn_r _ [28, 29, 30, 31, 9, 32, 33, 34, 35, 36, 37, 38, 39, 40, 41, 42, 43, 44, 45, 46, 47, 48, 49, 50, 51, 52, 53, 54, 55, 56, 57, 58] (by decide +kernel) (by decide +kernel)
set_option maxRecDepth 20000 in
theorem gX5_mount_X5_robot : GoodIn wsX5_mount (wsV RX5 121 RX5 yX5_robot wsX5_robot) := goodIn_app (goodIn_of _ (by decide +kernel)) ggX5_mount_X5_robot
theorem dX5_mount_0 : decode cX5_mount 0 = .ok (.aload_n 0, 1) := by decide +kernel
theorem dX5_mount_1 : decode cX5_mount 1 = .ok (.iload_n 1, 1) := by decide +kernel
theorem dX5_mount_2 : decode cX5_mount 2 = .ok (.invokevirtual 92, 3) := by decide +kernel
theorem dX5_mount_5 : decode cX5_mount 5 = .ok (.ifCond .eq 15, 3) := by decide +kernel
theorem dX5_mount_8 : decode cX5_mount 8 = .ok (.aload_n 0, 1) := by decide +kernel
theorem dX5_mount_9 : decode cX5_mount 9 = .ok (.iload_n 2, 1) := by decide +kernel
theorem dX5_mount_10 : decode cX5_mount 10 = .ok (.invokevirtual 88, 3) := by decide +kernel
theorem dX5_mount_13 : decode cX5_mount 13 = .ok (.ifCond .eq 7, 3) := by decide +kernel
theorem dX5_mount_16 : decode cX5_mount 16 = .ok (.iconst 1, 1) := by decide +kernel
theorem dX5_mount_17 : decode cX5_mount 17 = .ok (.goto 4, 3) := by decide +kernel
theorem dX5_mount_20 : decode cX5_mount 20 = .ok (.iconst 0, 1) := by decide +kernel
theorem dX5_mount_21 : decode cX5_mount 21 = .ok (.istore_n 3, 1) := by decide +kernel
theorem dX5_mount_22 : decode cX5_mount 22 = .ok (.aload_n 0, 1) := by decide +kernel
theorem dX5_mount_23 : decode cX5_mount 23 = .ok (.iload_n 3, 1) := by decide +kernel
theorem dX5_mount_24 : decode cX5_mount 24 = .ok (.iload_n 3, 1) := by decide +kernel
theorem dX5_mount_25 : decode cX5_mount 25 = .ok (.ifCond .eq 36, 3) := by decide +kernel
theorem dX5_mount_28 : decode cX5_mount 28 = .ok (.aload_n 0, 1) := by decide +kernel
theorem dX5_mount_29 : decode cX5_mount 29 = .ok (.getfield 44, 3) := by decide +kernel
theorem dX5_mount_32 : decode cX5_mount 32 = .ok (.iload_n 1, 1) := by decide +kernel
theorem dX5_mount_33 : decode cX5_mount 33 = .ok (.iaload, 1) := by decide +kernel
theorem dX5_mount_34 : decode cX5_mount 34 = .ok (.iconst (-1), 1) := by decide +kernel
theorem dX5_mount_35 : decode cX5_mount 35 = .ok (.if_icmp .ne 26, 3) := by decide +kernel
theorem dX5_mount_38 : decode cX5_mount 38 = .ok (.aload_n 0, 1) := by decide +kernel
theorem dX5_mount_39 : decode cX5_mount 39 = .ok (.getfield 19, 3) := by decide +kernel
theorem dX5_mount_42 : decode cX5_mount 42 = .ok (.iload_n 2, 1) := by decide +kernel
theorem dX5_mount_43 : decode cX5_mount 43 = .ok (.iaload, 1) := by decide +kernel
theorem dX5_mount_44 : decode cX5_mount 44 = .ok (.iconst (-1), 1) := by decide +kernel
theorem dX5_mount_45 : decode cX5_mount 45 = .ok (.if_icmp .ne 16, 3) := by decide +kernel
theorem dX5_mount_48 : decode cX5_mount 48 = .ok (.aload_n 0, 1) := by decide +kernel
theorem dX5_mount_49 : decode cX5_mount 49 = .ok (.getfield 22, 3) := by decide +kernel
theorem dX5_mount_52 : decode cX5_mount 52 = .ok (.iload_n 2, 1) := by decide +kernel
theorem dX5_mount_53 : decode cX5_mount 53 = .ok (.baload, 1) := by decide +kernel
theorem dX5_mount_54 : decode cX5_mount 54 = .ok (.ifCond .ne 7, 3) := by decide +kernel
theorem dX5_mount_57 : decode cX5_mount 57 = .ok (.iconst 1, 1) := by decide +kernel
theorem dX5_mount_58 : decode cX5_mount 58 = .ok (.goto 4, 3) := by decide +kernel
theorem dX5_mount_61 : decode cX5_mount 61 = .ok (.iconst 0, 1) := by decide +kernel
theorem dX5_mount_62 : decode cX5_mount 62 = .ok (.invokevirtual 95, 3) := by decide +kernel
theorem dX5_mount_65 : decode cX5_mount 65 = .ok (.ifCond .ne 5, 3) := by decide +kernel
theorem dX5_mount_68 : decode cX5_mount 68 = .ok (.iconst 0, 1) := by decide +kernel
theorem dX5_mount_69 : decode cX5_mount 69 = .ok (.ireturn, 1) := by decide +kernel
theorem dX5_mount_70 : decode cX5_mount 70 = .ok (.aload_n 0, 1) := by decide +kernel
theorem dX5_mount_71 : decode cX5_mount 71 = .ok (.getfield 44, 3) := by decide +kernel
theorem dX5_mount_74 : decode cX5_mount 74 = .ok (.iload_n 1, 1) := by decide +kernel
theorem dX5_mount_75 : decode cX5_mount 75 = .ok (.iload_n 2, 1) := by decide +kernel
theorem dX5_mount_76 : decode cX5_mount 76 = .ok (.iastore, 1) := by decide +kernel
theorem dX5_mount_77 : decode cX5_mount 77 = .ok (.aload_n 0, 1) := by decide +kernel
theorem dX5_mount_78 : decode cX5_mount 78 = .ok (.getfield 19, 3) := by decide +kernel
theorem dX5_mount_81 : decode cX5_mount 81 = .ok (.iload_n 2, 1) := by decide +kernel
theorem dX5_mount_82 : decode cX5_mount 82 = .ok (.iload_n 1, 1) := by decide +kernel
theorem dX5_mount_83 : decode cX5_mount 83 = .ok (.iastore, 1) := by decide +kernel
theorem dX5_mount_84 : decode cX5_mount 84 = .ok (.aload_n 0, 1) := by decide +kernel
theorem dX5_mount_85 : decode cX5_mount 85 = .ok (.getfield 47, 3) := by decide +kernel
theorem dX5_mount_88 : decode cX5_mount 88 = .ok (.iload_n 1, 1) := by decide +kernel
theorem dX5_mount_89 : decode cX5_mount 89 = .ok (.iconst 0, 1) := by decide +kernel
theorem dX5_mount_90 : decode cX5_mount 90 = .ok (.iastore, 1) := by decide +kernel
theorem dX5_mount_91 : decode cX5_mount 91 = .ok (.aload_n 0, 1) := by decide +kernel
theorem dX5_mount_92 : decode cX5_mount 92 = .ok (.iload_n 1, 1) := by decide +kernel
theorem dX5_mount_93 : decode cX5_mount 93 = .ok (.iload_n 2, 1) := by decide +kernel
theorem dX5_mount_94 : decode cX5_mount 94 = .ok (.invokevirtual 121, 3) := by decide +kernel
theorem dX5_mount_97 : decode cX5_mount 97 = .ok (.istore 4, 2) := by decide +kernel
theorem dX5_mount_99 : decode cX5_mount 99 = .ok (.aload_n 0, 1) := by decide +kernel
theorem dX5_mount_100 : decode cX5_mount 100 = .ok (.getfield 38, 3) := by decide +kernel
theorem dX5_mount_103 : decode cX5_mount 103 = .ok (.iload_n 1, 1) := by decide +kernel
theorem dX5_mount_104 : decode cX5_mount 104 = .ok (.dup2, 1) := by decide +kernel
theorem dX5_mount_105 : decode cX5_mount 105 = .ok (.iaload, 1) := by decide +kernel
theorem dX5_mount_106 : decode cX5_mount 106 = .ok (.iload 4, 2) := by decide +kernel
theorem dX5_mount_108 : decode cX5_mount 108 = .ok (.iadd, 1) := by decide +kernel
theorem dX5_mount_109 : decode cX5_mount 109 = .ok (.iastore, 1) := by decide +kernel
theorem dX5_mount_110 : decode cX5_mount 110 = .ok (.iload 4, 2) := by decide +kernel
theorem dX5_mount_112 : decode cX5_mount 112 = .ok (.ireturn, 1) := by decide +kernel
set_option maxRecDepth 20000 in
theorem ggX5_unmount_X5_isDrive : GoodIn wsX5_unmount wsX5_isDrive := goodIn_r _ [9, 10, 11, 12, 8, 13, 46, 47, 48, 49, 50, 51, 52, 53, 54, 55, 56, 57, 58, 59, 60, 61, 62, 63, 64, 65, 66, 67, 68, 69, 70, 71] (by decide +kernel) (by decide +kernel)
set_option maxRecDepth 20000 in
theorem gX5_unmount_X5_isDrive : GoodIn wsX5_unmount (wsV RX5 92 RX5 yX5_isDrive wsX5_isDrive) := goodIn_app (goodIn_of _ (by decide +kernel)) ggX5_unmount_X5_isDrive
set_option maxRecDepth 20000 in
theorem ggX5_unmount_X5_hasTape : GoodIn wsX5_unmount wsX5_hasTape := goodIn_r _ [17, 2, 5, 6, 7, 8, 9, 10, 11, 12, 13, 46, 47, 48, 49, 50, 51, 52, 53, 54, 55, 56, 57, 58, 59, 60, 61, 62, 63, 64, 65, 66, 67, 68, 69, 70, 71] (by decide +kernel) (by decide +kernel)
set_option maxRecDepth 20000 in
theorem gX5_unmount_X5_hasTape : GoodIn wsX5_unmount (wsV RX5 124 RX5 yX5_hasTape wsX5_hasTape) := goodIn_app (goodIn_of _ (by decide +kernel)) ggX5_unmount_X5_hasTape
set_option maxRecDepth 20000 in
theorem ggX5_unmount_X5_mayBoth : GoodIn wsX5_unmount wsX5_mayBoth := goodIn_r _ [21, 22, 46, 47, 48, 49, 50, 51, 52, 53, 54, 55, 56, 57, 58, 59, 60, 61, 62, 63, 64, 65, 66, 67, 68, 69, 70, 71] (by decide +kernel) (by decide +kernel)
set_option maxRecDepth 20000 in
theorem gX5_unmount_X5_mayBoth : GoodIn wsX5_unmount (wsV RX5 95 RX5 yX5_mayBoth wsX5_mayBoth) := goodIn_app (goodIn_of _ (by decide +kernel)) ggX5_unmount_X5_mayBoth
set_option maxRecDepth 20000 in
theorem ggX5_unmount_X5_way : GoodIn wsX5_unmount wsX5_way := goodIn_r _ [26, 2, 27, 28, 29, 30, 31, 32, 8, 33, 34, 35, 36, 37, 38, 39, 40, 46, 47, 48, 49, 50, 51, 52, 53, 54, 55, 56, 57, 58, 59, 60, 61, 62, 63, 64, 65, 66, 67, 68, 69, 70, 71] (by decide +kernel) (by decide +kernel)
set_option maxRecDepth 20000 in
theorem gX5_unmount_X5_way : GoodIn wsX5_unmount (wsV RX5 127 RX5 yX5_way wsX5_way) := goodIn_app (goodIn_of _ (by decide +kernel)) ggX5_unmount_X5_way
set_option maxRecDepth 20000 in
theorem ggX5_unmount_X5_robot : GoodIn wsX5_unmount wsX5_robot := goodIn_r _ [44, 45, 38, 39, 8, 40, 46, 47, 48, 49, 50, 51, 52, 53, 54, 55, 56, 57, 58, 59, 60, 61, 62, 63, 64, 65, 66, 67, 68, 69, 70, 71] (by decide +kernel) (by decide +kernel)
set_option maxRecDepth 20000 in
theorem gX5_unmount_X5_robot : GoodIn wsX5_unmount (wsV RX5 121 RX5 yX5_robot wsX5_robot) := goodIn_app (goodIn_of _ (by decide +kernel)) ggX5_unmount_X5_robot
theorem dX5_unmount_0 : decode cX5_unmount 0 = .ok (.aload_n 0, 1) := by decide +kernel
theorem dX5_unmount_1 : decode cX5_unmount 1 = .ok (.aload_n 0, 1) := by decide +kernel
theorem dX5_unmount_2 : decode cX5_unmount 2 = .ok (.iload_n 1, 1) := by decide +kernel
theorem dX5_unmount_3 : decode cX5_unmount 3 = .ok (.invokevirtual 92, 3) := by decide +kernel
theorem dX5_unmount_6 : decode cX5_unmount 6 = .ok (.aload_n 0, 1) := by decide +kernel
theorem dX5_unmount_7 : decode cX5_unmount 7 = .ok (.iload_n 1, 1) := by decide +kernel
theorem dX5_unmount_8 : decode cX5_unmount 8 = .ok (.invokevirtual 124, 3) := by decide +kernel
theorem dX5_unmount_11 : decode cX5_unmount 11 = .ok (.invokevirtual 95, 3) := by decide +kernel
theorem dX5_unmount_14 : decode cX5_unmount 14 = .ok (.ifCond .ne 5, 3) := by decide +kernel
theorem dX5_unmount_17 : decode cX5_unmount 17 = .ok (.iconst 0, 1) := by decide +kernel
theorem dX5_unmount_18 : decode cX5_unmount 18 = .ok (.ireturn, 1) := by decide +kernel
theorem dX5_unmount_19 : decode cX5_unmount 19 = .ok (.aload_n 0, 1) := by decide +kernel
theorem dX5_unmount_20 : decode cX5_unmount 20 = .ok (.iload_n 1, 1) := by decide +kernel
theorem dX5_unmount_21 : decode cX5_unmount 21 = .ok (.aload_n 0, 1) := by decide +kernel
theorem dX5_unmount_22 : decode cX5_unmount 22 = .ok (.getfield 47, 3) := by decide +kernel
theorem dX5_unmount_25 : decode cX5_unmount 25 = .ok (.iload_n 1, 1) := by decide +kernel
theorem dX5_unmount_26 : decode cX5_unmount 26 = .ok (.iaload, 1) := by decide +kernel
theorem dX5_unmount_27 : decode cX5_unmount 27 = .ok (.iconst 0, 1) := by decide +kernel
theorem dX5_unmount_28 : decode cX5_unmount 28 = .ok (.invokevirtual 127, 3) := by decide +kernel
theorem dX5_unmount_31 : decode cX5_unmount 31 = .ok (.aload_n 0, 1) := by decide +kernel
theorem dX5_unmount_32 : decode cX5_unmount 32 = .ok (.iload_n 1, 1) := by decide +kernel
theorem dX5_unmount_33 : decode cX5_unmount 33 = .ok (.aload_n 0, 1) := by decide +kernel
theorem dX5_unmount_34 : decode cX5_unmount 34 = .ok (.getfield 44, 3) := by decide +kernel
theorem dX5_unmount_37 : decode cX5_unmount 37 = .ok (.iload_n 1, 1) := by decide +kernel
theorem dX5_unmount_38 : decode cX5_unmount 38 = .ok (.iaload, 1) := by decide +kernel
theorem dX5_unmount_39 : decode cX5_unmount 39 = .ok (.invokevirtual 121, 3) := by decide +kernel
theorem dX5_unmount_42 : decode cX5_unmount 42 = .ok (.iadd, 1) := by decide +kernel
theorem dX5_unmount_43 : decode cX5_unmount 43 = .ok (.istore_n 2, 1) := by decide +kernel
theorem dX5_unmount_44 : decode cX5_unmount 44 = .ok (.aload_n 0, 1) := by decide +kernel
theorem dX5_unmount_45 : decode cX5_unmount 45 = .ok (.getfield 38, 3) := by decide +kernel
theorem dX5_unmount_48 : decode cX5_unmount 48 = .ok (.iload_n 1, 1) := by decide +kernel
theorem dX5_unmount_49 : decode cX5_unmount 49 = .ok (.dup2, 1) := by decide +kernel
theorem dX5_unmount_50 : decode cX5_unmount 50 = .ok (.iaload, 1) := by decide +kernel
theorem dX5_unmount_51 : decode cX5_unmount 51 = .ok (.iload_n 2, 1) := by decide +kernel
theorem dX5_unmount_52 : decode cX5_unmount 52 = .ok (.iadd, 1) := by decide +kernel
theorem dX5_unmount_53 : decode cX5_unmount 53 = .ok (.iastore, 1) := by decide +kernel
theorem dX5_unmount_54 : decode cX5_unmount 54 = .ok (.aload_n 0, 1) := by decide +kernel
theorem dX5_unmount_55 : decode cX5_unmount 55 = .ok (.getfield 19, 3) := by decide +kernel
theorem dX5_unmount_58 : decode cX5_unmount 58 = .ok (.aload_n 0, 1) := by decide +kernel
theorem dX5_unmount_59 : decode cX5_unmount 59 = .ok (.getfield 44, 3) := by decide +kernel
theorem dX5_unmount_62 : decode cX5_unmount 62 = .ok (.iload_n 1, 1) := by decide +kernel
theorem dX5_unmount_63 : decode cX5_unmount 63 = .ok (.iaload, 1) := by decide +kernel
theorem dX5_unmount_64 : decode cX5_unmount 64 = .ok (.iconst (-1), 1) := by decide +kernel
theorem dX5_unmount_65 : decode cX5_unmount 65 = .ok (.iastore, 1) := by decide +kernel
theorem dX5_unmount_66 : decode cX5_unmount 66 = .ok (.aload_n 0, 1) := by decide +kernel
theorem dX5_unmount_67 : decode cX5_unmount 67 = .ok (.getfield 44, 3) := by decide +kernel
theorem dX5_unmount_70 : decode cX5_unmount 70 = .ok (.iload_n 1, 1) := by decide +kernel
theorem dX5_unmount_71 : decode cX5_unmount 71 = .ok (.iconst (-1), 1) := by decide +kernel
theorem dX5_unmount_72 : decode cX5_unmount 72 = .ok (.iastore, 1) := by decide +kernel
theorem dX5_unmount_73 : decode cX5_unmount 73 = .ok (.iload_n 2, 1) := by decide +kernel
theorem dX5_unmount_74 : decode cX5_unmount 74 = .ok (.ireturn, 1) := by decide +kernel
set_option maxRecDepth 20000 in
theorem ggX5_run_X5_way : GoodIn wsX5_run wsX5_way := goodIn_r _ [8, 9, 10, 11, 12, 13, 14, 15, 7, 16, 17, 18, 19, 20, 21, 22, 23, 24, 25, 26, 27, 28, 29, 30, 31, 32, 33, 34, 35, 36, 37, 38, 39, 40, 41, 42, 43, 44, 45, 46, 47, 48, 49] (by decide +kernel) (by decide +kernel)
set_option maxRecDepth 20000 in
theorem gX5_run_X5_way : GoodIn wsX5_run (wsV RX5 127 RX5 yX5_way wsX5_way) := goodIn_app (goodIn_of _ (by decide +kernel)) ggX5_run_X5_way
theorem dX5_run_0 : decode cX5_run 0 = .ok (.aload_n 0, 1) := by decide +kernel
theorem dX5_run_1 : decode cX5_run 1 = .ok (.iload_n 1, 1) := by decide +kernel
theorem dX5_run_2 : decode cX5_run 2 = .ok (.aload_n 0, 1) := by decide +kernel
theorem dX5_run_3 : decode cX5_run 3 = .ok (.getfield 47, 3) := by decide +kernel
theorem dX5_run_6 : decode cX5_run 6 = .ok (.iload_n 1, 1) := by decide +kernel
theorem dX5_run_7 : decode cX5_run 7 = .ok (.iaload, 1) := by decide +kernel
theorem dX5_run_8 : decode cX5_run 8 = .ok (.iload_n 2, 1) := by decide +kernel
theorem dX5_run_9 : decode cX5_run 9 = .ok (.invokevirtual 127, 3) := by decide +kernel
theorem dX5_run_12 : decode cX5_run 12 = .ok (.iconst 3, 1) := by decide +kernel
theorem dX5_run_13 : decode cX5_run 13 = .ok (.iload_n 3, 1) := by decide +kernel
theorem dX5_run_14 : decode cX5_run 14 = .ok (.imul, 1) := by decide +kernel
theorem dX5_run_15 : decode cX5_run 15 = .ok (.iadd, 1) := by decide +kernel
theorem dX5_run_16 : decode cX5_run 16 = .ok (.istore 4, 2) := by decide +kernel
theorem dX5_run_18 : decode cX5_run 18 = .ok (.aload_n 0, 1) := by decide +kernel
theorem dX5_run_19 : decode cX5_run 19 = .ok (.getfield 47, 3) := by decide +kernel
theorem dX5_run_22 : decode cX5_run 22 = .ok (.iload_n 1, 1) := by decide +kernel
theorem dX5_run_23 : decode cX5_run 23 = .ok (.iload_n 2, 1) := by decide +kernel
theorem dX5_run_24 : decode cX5_run 24 = .ok (.iload_n 3, 1) := by decide +kernel
theorem dX5_run_25 : decode cX5_run 25 = .ok (.iadd, 1) := by decide +kernel
theorem dX5_run_26 : decode cX5_run 26 = .ok (.iastore, 1) := by decide +kernel
theorem dX5_run_27 : decode cX5_run 27 = .ok (.aload_n 0, 1) := by decide +kernel
theorem dX5_run_28 : decode cX5_run 28 = .ok (.getfield 38, 3) := by decide +kernel
theorem dX5_run_31 : decode cX5_run 31 = .ok (.iload_n 1, 1) := by decide +kernel
theorem dX5_run_32 : decode cX5_run 32 = .ok (.dup2, 1) := by decide +kernel
theorem dX5_run_33 : decode cX5_run 33 = .ok (.iaload, 1) := by decide +kernel
theorem dX5_run_34 : decode cX5_run 34 = .ok (.iload 4, 2) := by decide +kernel
theorem dX5_run_36 : decode cX5_run 36 = .ok (.iadd, 1) := by decide +kernel
theorem dX5_run_37 : decode cX5_run 37 = .ok (.iastore, 1) := by decide +kernel
theorem dX5_run_38 : decode cX5_run 38 = .ok (.aload_n 0, 1) := by decide +kernel
theorem dX5_run_39 : decode cX5_run 39 = .ok (.getfield 41, 3) := by decide +kernel
theorem dX5_run_42 : decode cX5_run 42 = .ok (.iload_n 1, 1) := by decide +kernel
theorem dX5_run_43 : decode cX5_run 43 = .ok (.dup2, 1) := by decide +kernel
theorem dX5_run_44 : decode cX5_run 44 = .ok (.iaload, 1) := by decide +kernel
theorem dX5_run_45 : decode cX5_run 45 = .ok (.iconst 1, 1) := by decide +kernel
theorem dX5_run_46 : decode cX5_run 46 = .ok (.iadd, 1) := by decide +kernel
theorem dX5_run_47 : decode cX5_run 47 = .ok (.iastore, 1) := by decide +kernel
theorem dX5_run_48 : decode cX5_run 48 = .ok (.iload 4, 2) := by decide +kernel
theorem dX5_run_50 : decode cX5_run 50 = .ok (.ireturn, 1) := by decide +kernel
theorem dX5_behind_0 : decode cX5_behind 0 = .ok (.bipush 10, 2) := by decide +kernel
theorem dX5_behind_2 : decode cX5_behind 2 = .ok (.iload_n 1, 1) := by decide +kernel
theorem dX5_behind_3 : decode cX5_behind 3 = .ok (.imul, 1) := by decide +kernel
theorem dX5_behind_4 : decode cX5_behind 4 = .ok (.aload_n 0, 1) := by decide +kernel
theorem dX5_behind_5 : decode cX5_behind 5 = .ok (.getfield 26, 3) := by decide +kernel
theorem dX5_behind_8 : decode cX5_behind 8 = .ok (.iload_n 1, 1) := by decide +kernel
theorem dX5_behind_9 : decode cX5_behind 9 = .ok (.iaload, 1) := by decide +kernel
theorem dX5_behind_10 : decode cX5_behind 10 = .ok (.iadd, 1) := by decide +kernel
theorem dX5_behind_11 : decode cX5_behind 11 = .ok (.iconst 1, 1) := by decide +kernel
theorem dX5_behind_12 : decode cX5_behind 12 = .ok (.isub, 1) := by decide +kernel
theorem dX5_behind_13 : decode cX5_behind 13 = .ok (.istore_n 2, 1) := by decide +kernel
theorem dX5_behind_14 : decode cX5_behind 14 = .ok (.aload_n 0, 1) := by decide +kernel
theorem dX5_behind_15 : decode cX5_behind 15 = .ok (.getfield 26, 3) := by decide +kernel
theorem dX5_behind_18 : decode cX5_behind 18 = .ok (.iload_n 1, 1) := by decide +kernel
theorem dX5_behind_19 : decode cX5_behind 19 = .ok (.iaload, 1) := by decide +kernel
theorem dX5_behind_20 : decode cX5_behind 20 = .ok (.ifCond .ne 7, 3) := by decide +kernel
theorem dX5_behind_23 : decode cX5_behind 23 = .ok (.iconst 0, 1) := by decide +kernel
theorem dX5_behind_24 : decode cX5_behind 24 = .ok (.goto 16, 3) := by decide +kernel
theorem dX5_behind_27 : decode cX5_behind 27 = .ok (.aload_n 0, 1) := by decide +kernel
theorem dX5_behind_28 : decode cX5_behind 28 = .ok (.getfield 29, 3) := by decide +kernel
theorem dX5_behind_31 : decode cX5_behind 31 = .ok (.iload_n 2, 1) := by decide +kernel
theorem dX5_behind_32 : decode cX5_behind 32 = .ok (.iaload, 1) := by decide +kernel
theorem dX5_behind_33 : decode cX5_behind 33 = .ok (.aload_n 0, 1) := by decide +kernel
theorem dX5_behind_34 : decode cX5_behind 34 = .ok (.getfield 32, 3) := by decide +kernel
theorem dX5_behind_37 : decode cX5_behind 37 = .ok (.iload_n 2, 1) := by decide +kernel
theorem dX5_behind_38 : decode cX5_behind 38 = .ok (.iaload, 1) := by decide +kernel
theorem dX5_behind_39 : decode cX5_behind 39 = .ok (.iadd, 1) := by decide +kernel
theorem dX5_behind_40 : decode cX5_behind 40 = .ok (.ireturn, 1) := by decide +kernel
set_option maxRecDepth 20000 in
theorem ggX5_write_X5_hasTape : GoodIn wsX5_write wsX5_hasTape := goodIn_r _ [11, 1, 12, 13, 14, 10, 15, 16, 17, 18, 19, 56, 57, 58, 59, 60, 61, 62, 63, 64, 65, 66, 67, 68, 69, 70, 71, 72, 73, 74, 75, 76, 77, 78, 79, 80, 81] (by decide +kernel) (by decide +kernel)
set_option maxRecDepth 20000 in
theorem gX5_write_X5_hasTape : GoodIn wsX5_write (wsV RX5 124 RX5 yX5_hasTape wsX5_hasTape) := goodIn_app (goodIn_of _ (by decide +kernel)) ggX5_write_X5_hasTape
set_option maxRecDepth 20000 in
theorem ggX5_write_X5_isClean : GoodIn wsX5_write wsX5_isClean := goodIn_r _ [23, 24, 56, 57, 58, 59, 60, 61, 62, 63, 64, 65, 66, 67, 68, 69, 70, 71, 72, 73, 74, 75, 76, 77, 78, 79, 80, 81] (by decide +kernel) (by decide +kernel)
set_option maxRecDepth 20000 in
theorem gX5_write_X5_isClean : GoodIn wsX5_write (wsV RX5 131 RX5 yX5_isClean wsX5_isClean) := goodIn_app (goodIn_of _ (by decide +kernel)) ggX5_write_X5_isClean
set_option maxRecDepth 20000 in
theorem ggX5_write_X5_behind : GoodIn wsX5_write wsX5_behind := goodIn_r _ [28, 2, 5, 6, 56, 57, 58, 59, 60, 61, 62, 63, 64, 65, 66, 67, 68, 69, 70, 71, 72, 73, 74, 75, 76, 77, 78, 79, 80, 81] (by decide +kernel) (by decide +kernel)
set_option maxRecDepth 20000 in
theorem gX5_write_X5_behind : GoodIn wsX5_write (wsV RX5 134 RX5 yX5_behind wsX5_behind) := goodIn_app (goodIn_of _ (by decide +kernel)) ggX5_write_X5_behind
set_option maxRecDepth 20000 in
theorem ggX5_write_X5_isDrive : GoodIn wsX5_write wsX5_isDrive := goodIn_r _ [15, 16, 17, 18, 10, 19, 56, 57, 58, 59, 60, 61, 62, 63, 64, 65, 66, 67, 68, 69, 70, 71, 72, 73, 74, 75, 76, 77, 78, 79, 80, 81] (by decide +kernel) (by decide +kernel)
set_option maxRecDepth 20000 in
theorem gX5_write_X5_isDrive : GoodIn wsX5_write (wsV RX5 92 RX5 yX5_isDrive wsX5_isDrive) := goodIn_app (goodIn_of _ (by decide +kernel)) ggX5_write_X5_isDrive
set_option maxRecDepth 20000 in
theorem ggX5_write_X5_isIn : GoodIn wsX5_write wsX5_isIn := goodIn_r _ [19] (by decide +kernel) (by decide +kernel)
set_option maxRecDepth 20000 in
theorem gX5_write_X5_isIn : GoodIn wsX5_write (va_wsS RX5 81 yX5_isIn wsX5_isIn) := goodIn_app (goodIn_of _ (by decide +kernel)) ggX5_write_X5_isIn
set_option maxRecDepth 20000 in
theorem ggX5_write_X5_mayAll : GoodIn wsX5_write wsX5_mayAll := goodIn_r _ [32, 33, 56, 57, 58, 59, 60, 61, 62, 63, 64, 65, 66, 67, 68, 69, 70, 71, 72, 73, 74, 75, 76, 77, 78, 79, 80, 81] (by decide +kernel) (by decide +kernel)
set_option maxRecDepth 20000 in
theorem gX5_write_X5_mayAll : GoodIn wsX5_write (wsV RX5 137 RX5 yX5_mayAll wsX5_mayAll) := goodIn_app (goodIn_of _ (by decide +kernel)) ggX5_write_X5_mayAll
set_option maxRecDepth 20000 in
theorem ggX5_write_X5_run : GoodIn wsX5_write wsX5_run := goodIn_r _ [37, 38, 39, 24, 40, 41, 42, 10, 43, 1, 3, 4, 44, 45, 46, 47, 48, 49, 50, 51, 52, 53, 54, 55, 56, 57, 58, 59, 60, 61, 62, 63, 64, 65, 66, 67, 68, 69, 70, 71, 72, 73, 74, 75, 76, 77, 78, 79, 80, 81] (by decide +kernel) (by decide +kernel)
set_option maxRecDepth 20000 in
theorem gX5_write_X5_run : GoodIn wsX5_write (wsV RX5 141 RX5 yX5_run wsX5_run) := goodIn_app (goodIn_of _ (by decide +kernel)) ggX5_write_X5_run
theorem dX5_write_0 : decode cX5_write 0 = .ok (.aload_n 0, 1) := by decide +kernel
theorem dX5_write_1 : decode cX5_write 1 = .ok (.iload_n 1, 1) := by decide +kernel
theorem dX5_write_2 : decode cX5_write 2 = .ok (.invokevirtual 124, 3) := by decide +kernel
theorem dX5_write_5 : decode cX5_write 5 = .ok (.istore_n 3, 1) := by decide +kernel
theorem dX5_write_6 : decode cX5_write 6 = .ok (.iload_n 3, 1) := by decide +kernel
theorem dX5_write_7 : decode cX5_write 7 = .ok (.ifCond .eq 12, 3) := by decide +kernel
theorem dX5_write_10 : decode cX5_write 10 = .ok (.aload_n 0, 1) := by decide +kernel
theorem dX5_write_11 : decode cX5_write 11 = .ok (.getfield 44, 3) := by decide +kernel
theorem dX5_write_14 : decode cX5_write 14 = .ok (.iload_n 1, 1) := by decide +kernel
theorem dX5_write_15 : decode cX5_write 15 = .ok (.iaload, 1) := by decide +kernel
theorem dX5_write_16 : decode cX5_write 16 = .ok (.goto 4, 3) := by decide +kernel
theorem dX5_write_19 : decode cX5_write 19 = .ok (.iconst 0, 1) := by decide +kernel
theorem dX5_write_20 : decode cX5_write 20 = .ok (.istore 4, 2) := by decide +kernel
theorem dX5_write_22 : decode cX5_write 22 = .ok (.iload_n 3, 1) := by decide +kernel
theorem dX5_write_23 : decode cX5_write 23 = .ok (.ifCond .eq 57, 3) := by decide +kernel
theorem dX5_write_26 : decode cX5_write 26 = .ok (.aload_n 0, 1) := by decide +kernel
theorem dX5_write_27 : decode cX5_write 27 = .ok (.iload_n 1, 1) := by decide +kernel
theorem dX5_write_28 : decode cX5_write 28 = .ok (.invokevirtual 131, 3) := by decide +kernel
theorem dX5_write_31 : decode cX5_write 31 = .ok (.ifCond .eq 49, 3) := by decide +kernel
theorem dX5_write_34 : decode cX5_write 34 = .ok (.aload_n 0, 1) := by decide +kernel
theorem dX5_write_35 : decode cX5_write 35 = .ok (.getfield 26, 3) := by decide +kernel
theorem dX5_write_38 : decode cX5_write 38 = .ok (.iload 4, 2) := by decide +kernel
theorem dX5_write_40 : decode cX5_write 40 = .ok (.iaload, 1) := by decide +kernel
theorem dX5_write_41 : decode cX5_write 41 = .ok (.bipush 10, 2) := by decide +kernel
theorem dX5_write_43 : decode cX5_write 43 = .ok (.if_icmp .ge 37, 3) := by decide +kernel
theorem dX5_write_46 : decode cX5_write 46 = .ok (.aload_n 0, 1) := by decide +kernel
theorem dX5_write_47 : decode cX5_write 47 = .ok (.iload 4, 2) := by decide +kernel
theorem dX5_write_49 : decode cX5_write 49 = .ok (.invokevirtual 134, 3) := by decide +kernel
theorem dX5_write_52 : decode cX5_write 52 = .ok (.i2l, 1) := by decide +kernel
theorem dX5_write_53 : decode cX5_write 53 = .ok (.iload_n 2, 1) := by decide +kernel
theorem dX5_write_54 : decode cX5_write 54 = .ok (.i2l, 1) := by decide +kernel
theorem dX5_write_55 : decode cX5_write 55 = .ok (.ladd, 1) := by decide +kernel
theorem dX5_write_56 : decode cX5_write 56 = .ok (.aload_n 0, 1) := by decide +kernel
theorem dX5_write_57 : decode cX5_write 57 = .ok (.getfield 7, 3) := by decide +kernel
theorem dX5_write_60 : decode cX5_write 60 = .ok (.iload 4, 2) := by decide +kernel
theorem dX5_write_62 : decode cX5_write 62 = .ok (.iaload, 1) := by decide +kernel
theorem dX5_write_63 : decode cX5_write 63 = .ok (.aload_n 0, 1) := by decide +kernel
theorem dX5_write_64 : decode cX5_write 64 = .ok (.getfield 13, 3) := by decide +kernel
theorem dX5_write_67 : decode cX5_write 67 = .ok (.iload 4, 2) := by decide +kernel
theorem dX5_write_69 : decode cX5_write 69 = .ok (.iaload, 1) := by decide +kernel
theorem dX5_write_70 : decode cX5_write 70 = .ok (.imul, 1) := by decide +kernel
theorem dX5_write_71 : decode cX5_write 71 = .ok (.i2l, 1) := by decide +kernel
theorem dX5_write_72 : decode cX5_write 72 = .ok (.lcmp, 1) := by decide +kernel
theorem dX5_write_73 : decode cX5_write 73 = .ok (.ifCond .gt 7, 3) := by decide +kernel
theorem dX5_write_76 : decode cX5_write 76 = .ok (.iconst 1, 1) := by decide +kernel
theorem dX5_write_77 : decode cX5_write 77 = .ok (.goto 4, 3) := by decide +kernel
theorem dX5_write_80 : decode cX5_write 80 = .ok (.iconst 0, 1) := by decide +kernel
theorem dX5_write_81 : decode cX5_write 81 = .ok (.istore 5, 2) := by decide +kernel
theorem dX5_write_83 : decode cX5_write 83 = .ok (.aload_n 0, 1) := by decide +kernel
theorem dX5_write_84 : decode cX5_write 84 = .ok (.aload_n 0, 1) := by decide +kernel
theorem dX5_write_85 : decode cX5_write 85 = .ok (.iload_n 1, 1) := by decide +kernel
theorem dX5_write_86 : decode cX5_write 86 = .ok (.invokevirtual 92, 3) := by decide +kernel
theorem dX5_write_89 : decode cX5_write 89 = .ok (.iload_n 2, 1) := by decide +kernel
theorem dX5_write_90 : decode cX5_write 90 = .ok (.iconst 1, 1) := by decide +kernel
theorem dX5_write_91 : decode cX5_write 91 = .ok (.bipush 100, 2) := by decide +kernel
theorem dX5_write_93 : decode cX5_write 93 = .ok (.invokestatic 81, 3) := by decide +kernel
theorem dX5_write_96 : decode cX5_write 96 = .ok (.iload 5, 2) := by decide +kernel
theorem dX5_write_98 : decode cX5_write 98 = .ok (.invokevirtual 137, 3) := by decide +kernel
theorem dX5_write_101 : decode cX5_write 101 = .ok (.ifCond .ne 5, 3) := by decide +kernel
theorem dX5_write_104 : decode cX5_write 104 = .ok (.iconst 0, 1) := by decide +kernel
theorem dX5_write_105 : decode cX5_write 105 = .ok (.ireturn, 1) := by decide +kernel
theorem dX5_write_106 : decode cX5_write 106 = .ok (.aload_n 0, 1) := by decide +kernel
theorem dX5_write_107 : decode cX5_write 107 = .ok (.iload 4, 2) := by decide +kernel
theorem dX5_write_109 : decode cX5_write 109 = .ok (.invokevirtual 134, 3) := by decide +kernel
theorem dX5_write_112 : decode cX5_write 112 = .ok (.istore 6, 2) := by decide +kernel
theorem dX5_write_114 : decode cX5_write 114 = .ok (.aload_n 0, 1) := by decide +kernel
theorem dX5_write_115 : decode cX5_write 115 = .ok (.getfield 29, 3) := by decide +kernel
theorem dX5_write_118 : decode cX5_write 118 = .ok (.bipush 10, 2) := by decide +kernel
theorem dX5_write_120 : decode cX5_write 120 = .ok (.iload 4, 2) := by decide +kernel
theorem dX5_write_122 : decode cX5_write 122 = .ok (.imul, 1) := by decide +kernel
theorem dX5_write_123 : decode cX5_write 123 = .ok (.aload_n 0, 1) := by decide +kernel
theorem dX5_write_124 : decode cX5_write 124 = .ok (.getfield 26, 3) := by decide +kernel
theorem dX5_write_127 : decode cX5_write 127 = .ok (.iload 4, 2) := by decide +kernel
theorem dX5_write_129 : decode cX5_write 129 = .ok (.iaload, 1) := by decide +kernel
theorem dX5_write_130 : decode cX5_write 130 = .ok (.iadd, 1) := by decide +kernel
theorem dX5_write_131 : decode cX5_write 131 = .ok (.iload 6, 2) := by decide +kernel
theorem dX5_write_133 : decode cX5_write 133 = .ok (.iastore, 1) := by decide +kernel
theorem dX5_write_134 : decode cX5_write 134 = .ok (.aload_n 0, 1) := by decide +kernel
theorem dX5_write_135 : decode cX5_write 135 = .ok (.getfield 32, 3) := by decide +kernel
theorem dX5_write_138 : decode cX5_write 138 = .ok (.bipush 10, 2) := by decide +kernel
theorem dX5_write_140 : decode cX5_write 140 = .ok (.iload 4, 2) := by decide +kernel
theorem dX5_write_142 : decode cX5_write 142 = .ok (.imul, 1) := by decide +kernel
theorem dX5_write_143 : decode cX5_write 143 = .ok (.aload_n 0, 1) := by decide +kernel
theorem dX5_write_144 : decode cX5_write 144 = .ok (.getfield 26, 3) := by decide +kernel
theorem dX5_write_147 : decode cX5_write 147 = .ok (.iload 4, 2) := by decide +kernel
theorem dX5_write_149 : decode cX5_write 149 = .ok (.iaload, 1) := by decide +kernel
theorem dX5_write_150 : decode cX5_write 150 = .ok (.iadd, 1) := by decide +kernel
theorem dX5_write_151 : decode cX5_write 151 = .ok (.iload_n 2, 1) := by decide +kernel
theorem dX5_write_152 : decode cX5_write 152 = .ok (.iastore, 1) := by decide +kernel
theorem dX5_write_153 : decode cX5_write 153 = .ok (.aload_n 0, 1) := by decide +kernel
theorem dX5_write_154 : decode cX5_write 154 = .ok (.getfield 26, 3) := by decide +kernel
theorem dX5_write_157 : decode cX5_write 157 = .ok (.iload 4, 2) := by decide +kernel
theorem dX5_write_159 : decode cX5_write 159 = .ok (.dup2, 1) := by decide +kernel
theorem dX5_write_160 : decode cX5_write 160 = .ok (.iaload, 1) := by decide +kernel
theorem dX5_write_161 : decode cX5_write 161 = .ok (.iconst 1, 1) := by decide +kernel
theorem dX5_write_162 : decode cX5_write 162 = .ok (.iadd, 1) := by decide +kernel
theorem dX5_write_163 : decode cX5_write 163 = .ok (.iastore, 1) := by decide +kernel
theorem dX5_write_164 : decode cX5_write 164 = .ok (.aload_n 0, 1) := by decide +kernel
theorem dX5_write_165 : decode cX5_write 165 = .ok (.iload_n 1, 1) := by decide +kernel
theorem dX5_write_166 : decode cX5_write 166 = .ok (.iload 6, 2) := by decide +kernel
theorem dX5_write_168 : decode cX5_write 168 = .ok (.iload_n 2, 1) := by decide +kernel
theorem dX5_write_169 : decode cX5_write 169 = .ok (.invokevirtual 141, 3) := by decide +kernel
theorem dX5_write_172 : decode cX5_write 172 = .ok (.ireturn, 1) := by decide +kernel
set_option maxRecDepth 20000 in
theorem ggX5_read_X5_hasTape : GoodIn wsX5_read wsX5_hasTape := goodIn_r _ [8, 1, 9, 10, 11, 7, 12, 13, 14, 15, 16, 61, 62, 63, 64, 65, 66, 67, 68, 69, 70, 71, 72, 73, 74, 75, 76, 77, 78, 79, 80, 81, 82, 83, 84, 85, 86] (by decide +kernel) (by decide +kernel)
set_option maxRecDepth 20000 in
theorem gX5_read_X5_hasTape : GoodIn wsX5_read (wsV RX5 124 RX5 yX5_hasTape wsX5_hasTape) := goodIn_app (goodIn_of _ (by decide +kernel)) ggX5_read_X5_hasTape
set_option maxRecDepth 20000 in
theorem ggX5_read_X5_isDrive : GoodIn wsX5_read wsX5_isDrive := goodIn_r _ [12, 13, 14, 15, 7, 16, 61, 62, 63, 64, 65, 66, 67, 68, 69, 70, 71, 72, 73, 74, 75, 76, 77, 78, 79, 80, 81, 82, 83, 84, 85, 86] (by decide +kernel) (by decide +kernel)
set_option maxRecDepth 20000 in
theorem gX5_read_X5_isDrive : GoodIn wsX5_read (wsV RX5 92 RX5 yX5_isDrive wsX5_isDrive) := goodIn_app (goodIn_of _ (by decide +kernel)) ggX5_read_X5_isDrive
set_option maxRecDepth 20000 in
theorem ggX5_read_X5_isFile : GoodIn wsX5_read wsX5_isFile := goodIn_r _ [20, 21, 22, 23, 24, 7, 25, 26, 14, 15, 16, 61, 62, 63, 64, 65, 66, 67, 68, 69, 70, 71, 72, 73, 74, 75, 76, 77, 78, 79, 80, 81, 82, 83, 84, 85, 86] (by decide +kernel) (by decide +kernel)
set_option maxRecDepth 20000 in
theorem gX5_read_X5_isFile : GoodIn wsX5_read (wsV RX5 106 RX5 yX5_isFile wsX5_isFile) := goodIn_app (goodIn_of _ (by decide +kernel)) ggX5_read_X5_isFile
set_option maxRecDepth 20000 in
theorem ggX5_read_X5_isClean : GoodIn wsX5_read wsX5_isClean := goodIn_r _ [30, 31, 61, 62, 63, 64, 65, 66, 67, 68, 69, 70, 71, 72, 73, 74, 75, 76, 77, 78, 79, 80, 81, 82, 83, 84, 85, 86] (by decide +kernel) (by decide +kernel)
set_option maxRecDepth 20000 in
theorem gX5_read_X5_isClean : GoodIn wsX5_read (wsV RX5 131 RX5 yX5_isClean wsX5_isClean) := goodIn_app (goodIn_of _ (by decide +kernel)) ggX5_read_X5_isClean
set_option maxRecDepth 20000 in
theorem ggX5_read_X5_mayBoth : GoodIn wsX5_read wsX5_mayBoth := goodIn_r _ [35, 36, 61, 62, 63, 64, 65, 66, 67, 68, 69, 70, 71, 72, 73, 74, 75, 76, 77, 78, 79, 80, 81, 82, 83, 84, 85, 86] (by decide +kernel) (by decide +kernel)
set_option maxRecDepth 20000 in
theorem gX5_read_X5_mayBoth : GoodIn wsX5_read (wsV RX5 95 RX5 yX5_mayBoth wsX5_mayBoth) := goodIn_app (goodIn_of _ (by decide +kernel)) ggX5_read_X5_mayBoth
set_option maxRecDepth 20000 in
theorem ggX5_read_X5_run : GoodIn wsX5_read wsX5_run := goodIn_r _ [40, 41, 42, 31, 43, 44, 45, 7, 46, 1, 47, 48, 49, 50, 51, 52, 53, 54, 55, 56, 57, 58, 59, 60, 61, 62, 63, 64, 65, 66, 67, 68, 69, 70, 71, 72, 73, 74, 75, 76, 77, 78, 79, 80, 81, 82, 83, 84, 85, 86] (by decide +kernel) (by decide +kernel)
set_option maxRecDepth 20000 in
theorem gX5_read_X5_run : GoodIn wsX5_read (wsV RX5 141 RX5 yX5_run wsX5_run) := goodIn_app (goodIn_of _ (by decide +kernel)) ggX5_read_X5_run
theorem dX5_read_0 : decode cX5_read 0 = .ok (.aload_n 0, 1) := by decide +kernel
theorem dX5_read_1 : decode cX5_read 1 = .ok (.iload_n 1, 1) := by decide +kernel
theorem dX5_read_2 : decode cX5_read 2 = .ok (.invokevirtual 124, 3) := by decide +kernel
theorem dX5_read_5 : decode cX5_read 5 = .ok (.istore_n 3, 1) := by decide +kernel
theorem dX5_read_6 : decode cX5_read 6 = .ok (.aload_n 0, 1) := by decide +kernel
theorem dX5_read_7 : decode cX5_read 7 = .ok (.aload_n 0, 1) := by decide +kernel
theorem dX5_read_8 : decode cX5_read 8 = .ok (.iload_n 1, 1) := by decide +kernel
theorem dX5_read_9 : decode cX5_read 9 = .ok (.invokevirtual 92, 3) := by decide +kernel
theorem dX5_read_12 : decode cX5_read 12 = .ok (.ifCond .eq 25, 3) := by decide +kernel
theorem dX5_read_15 : decode cX5_read 15 = .ok (.iload_n 3, 1) := by decide +kernel
theorem dX5_read_16 : decode cX5_read 16 = .ok (.ifCond .eq 17, 3) := by decide +kernel
theorem dX5_read_19 : decode cX5_read 19 = .ok (.aload_n 0, 1) := by decide +kernel
theorem dX5_read_20 : decode cX5_read 20 = .ok (.aload_n 0, 1) := by decide +kernel
theorem dX5_read_21 : decode cX5_read 21 = .ok (.getfield 44, 3) := by decide +kernel
theorem dX5_read_24 : decode cX5_read 24 = .ok (.iload_n 1, 1) := by decide +kernel
theorem dX5_read_25 : decode cX5_read 25 = .ok (.iaload, 1) := by decide +kernel
theorem dX5_read_26 : decode cX5_read 26 = .ok (.iload_n 2, 1) := by decide +kernel
theorem dX5_read_27 : decode cX5_read 27 = .ok (.invokevirtual 106, 3) := by decide +kernel
theorem dX5_read_30 : decode cX5_read 30 = .ok (.ifCond .eq 7, 3) := by decide +kernel
theorem dX5_read_33 : decode cX5_read 33 = .ok (.iconst 1, 1) := by decide +kernel
theorem dX5_read_34 : decode cX5_read 34 = .ok (.goto 4, 3) := by decide +kernel
theorem dX5_read_37 : decode cX5_read 37 = .ok (.iconst 0, 1) := by decide +kernel
theorem dX5_read_38 : decode cX5_read 38 = .ok (.iload_n 3, 1) := by decide +kernel
theorem dX5_read_39 : decode cX5_read 39 = .ok (.ifCond .eq 15, 3) := by decide +kernel
theorem dX5_read_42 : decode cX5_read 42 = .ok (.aload_n 0, 1) := by decide +kernel
theorem dX5_read_43 : decode cX5_read 43 = .ok (.iload_n 1, 1) := by decide +kernel
theorem dX5_read_44 : decode cX5_read 44 = .ok (.invokevirtual 131, 3) := by decide +kernel
theorem dX5_read_47 : decode cX5_read 47 = .ok (.ifCond .eq 7, 3) := by decide +kernel
theorem dX5_read_50 : decode cX5_read 50 = .ok (.iconst 1, 1) := by decide +kernel
theorem dX5_read_51 : decode cX5_read 51 = .ok (.goto 4, 3) := by decide +kernel
theorem dX5_read_54 : decode cX5_read 54 = .ok (.iconst 0, 1) := by decide +kernel
theorem dX5_read_55 : decode cX5_read 55 = .ok (.invokevirtual 95, 3) := by decide +kernel
theorem dX5_read_58 : decode cX5_read 58 = .ok (.ifCond .ne 5, 3) := by decide +kernel
theorem dX5_read_61 : decode cX5_read 61 = .ok (.iconst 0, 1) := by decide +kernel
theorem dX5_read_62 : decode cX5_read 62 = .ok (.ireturn, 1) := by decide +kernel
theorem dX5_read_63 : decode cX5_read 63 = .ok (.bipush 10, 2) := by decide +kernel
theorem dX5_read_65 : decode cX5_read 65 = .ok (.aload_n 0, 1) := by decide +kernel
theorem dX5_read_66 : decode cX5_read 66 = .ok (.getfield 44, 3) := by decide +kernel
theorem dX5_read_69 : decode cX5_read 69 = .ok (.iload_n 1, 1) := by decide +kernel
theorem dX5_read_70 : decode cX5_read 70 = .ok (.iaload, 1) := by decide +kernel
theorem dX5_read_71 : decode cX5_read 71 = .ok (.imul, 1) := by decide +kernel
theorem dX5_read_72 : decode cX5_read 72 = .ok (.iload_n 2, 1) := by decide +kernel
theorem dX5_read_73 : decode cX5_read 73 = .ok (.iadd, 1) := by decide +kernel
theorem dX5_read_74 : decode cX5_read 74 = .ok (.istore 4, 2) := by decide +kernel
theorem dX5_read_76 : decode cX5_read 76 = .ok (.aload_n 0, 1) := by decide +kernel
theorem dX5_read_77 : decode cX5_read 77 = .ok (.iload_n 1, 1) := by decide +kernel
theorem dX5_read_78 : decode cX5_read 78 = .ok (.aload_n 0, 1) := by decide +kernel
theorem dX5_read_79 : decode cX5_read 79 = .ok (.getfield 29, 3) := by decide +kernel
theorem dX5_read_82 : decode cX5_read 82 = .ok (.iload 4, 2) := by decide +kernel
theorem dX5_read_84 : decode cX5_read 84 = .ok (.iaload, 1) := by decide +kernel
theorem dX5_read_85 : decode cX5_read 85 = .ok (.aload_n 0, 1) := by decide +kernel
theorem dX5_read_86 : decode cX5_read 86 = .ok (.getfield 32, 3) := by decide +kernel
theorem dX5_read_89 : decode cX5_read 89 = .ok (.iload 4, 2) := by decide +kernel
theorem dX5_read_91 : decode cX5_read 91 = .ok (.iaload, 1) := by decide +kernel
theorem dX5_read_92 : decode cX5_read 92 = .ok (.invokevirtual 141, 3) := by decide +kernel
theorem dX5_read_95 : decode cX5_read 95 = .ok (.ireturn, 1) := by decide +kernel
set_option maxRecDepth 20000 in
theorem ggX5_clean_X5_isDrive : GoodIn wsX5_clean wsX5_isDrive := goodIn_r _ [7, 8, 9, 10, 6, 11, 22, 23, 24, 25, 26, 27, 28, 29, 30, 31, 32, 33, 34, 35, 36, 37, 38, 39, 40, 41, 42, 43, 44, 45, 46, 47] (by decide +kernel) (by decide +kernel)
set_option maxRecDepth 20000 in
theorem gX5_clean_X5_isDrive : GoodIn wsX5_clean (wsV RX5 92 RX5 yX5_isDrive wsX5_isDrive) := goodIn_app (goodIn_of _ (by decide +kernel)) ggX5_clean_X5_isDrive
set_option maxRecDepth 20000 in
theorem ggX5_clean_X5_hasTape : GoodIn wsX5_clean wsX5_hasTape := goodIn_r _ [15, 16, 3, 4, 5, 6, 7, 8, 9, 10, 11, 22, 23, 24, 25, 26, 27, 28, 29, 30, 31, 32, 33, 34, 35, 36, 37, 38, 39, 40, 41, 42, 43, 44, 45, 46, 47] (by decide +kernel) (by decide +kernel)
set_option maxRecDepth 20000 in
theorem gX5_clean_X5_hasTape : GoodIn wsX5_clean (wsV RX5 124 RX5 yX5_hasTape wsX5_hasTape) := goodIn_app (goodIn_of _ (by decide +kernel)) ggX5_clean_X5_hasTape
set_option maxRecDepth 20000 in
theorem ggX5_clean_X5_mayBoth : GoodIn wsX5_clean wsX5_mayBoth := goodIn_r _ [20, 21, 22, 23, 24, 25, 26, 27, 28, 29, 30, 31, 32, 33, 34, 35, 36, 37, 38, 39, 40, 41, 42, 43, 44, 45, 46, 47] (by decide +kernel) (by decide +kernel)
set_option maxRecDepth 20000 in
theorem gX5_clean_X5_mayBoth : GoodIn wsX5_clean (wsV RX5 95 RX5 yX5_mayBoth wsX5_mayBoth) := goodIn_app (goodIn_of _ (by decide +kernel)) ggX5_clean_X5_mayBoth
theorem dX5_clean_0 : decode cX5_clean 0 = .ok (.aload_n 0, 1) := by decide +kernel
theorem dX5_clean_1 : decode cX5_clean 1 = .ok (.aload_n 0, 1) := by decide +kernel
theorem dX5_clean_2 : decode cX5_clean 2 = .ok (.iload_n 1, 1) := by decide +kernel
theorem dX5_clean_3 : decode cX5_clean 3 = .ok (.invokevirtual 92, 3) := by decide +kernel
theorem dX5_clean_6 : decode cX5_clean 6 = .ok (.aload_n 0, 1) := by decide +kernel
theorem dX5_clean_7 : decode cX5_clean 7 = .ok (.iload_n 1, 1) := by decide +kernel
theorem dX5_clean_8 : decode cX5_clean 8 = .ok (.invokevirtual 124, 3) := by decide +kernel
theorem dX5_clean_11 : decode cX5_clean 11 = .ok (.ifCond .ne 7, 3) := by decide +kernel
theorem dX5_clean_14 : decode cX5_clean 14 = .ok (.iconst 1, 1) := by decide +kernel
theorem dX5_clean_15 : decode cX5_clean 15 = .ok (.goto 4, 3) := by decide +kernel
theorem dX5_clean_18 : decode cX5_clean 18 = .ok (.iconst 0, 1) := by decide +kernel
theorem dX5_clean_19 : decode cX5_clean 19 = .ok (.invokevirtual 95, 3) := by decide +kernel
theorem dX5_clean_22 : decode cX5_clean 22 = .ok (.ifCond .ne 5, 3) := by decide +kernel
theorem dX5_clean_25 : decode cX5_clean 25 = .ok (.iconst 0, 1) := by decide +kernel
theorem dX5_clean_26 : decode cX5_clean 26 = .ok (.ireturn, 1) := by decide +kernel
theorem dX5_clean_27 : decode cX5_clean 27 = .ok (.aload_n 0, 1) := by decide +kernel
theorem dX5_clean_28 : decode cX5_clean 28 = .ok (.getfield 41, 3) := by decide +kernel
theorem dX5_clean_31 : decode cX5_clean 31 = .ok (.iload_n 1, 1) := by decide +kernel
theorem dX5_clean_32 : decode cX5_clean 32 = .ok (.iaload, 1) := by decide +kernel
theorem dX5_clean_33 : decode cX5_clean 33 = .ok (.istore_n 2, 1) := by decide +kernel
theorem dX5_clean_34 : decode cX5_clean 34 = .ok (.aload_n 0, 1) := by decide +kernel
theorem dX5_clean_35 : decode cX5_clean 35 = .ok (.getfield 41, 3) := by decide +kernel
theorem dX5_clean_38 : decode cX5_clean 38 = .ok (.iload_n 1, 1) := by decide +kernel
theorem dX5_clean_39 : decode cX5_clean 39 = .ok (.iconst 0, 1) := by decide +kernel
theorem dX5_clean_40 : decode cX5_clean 40 = .ok (.iastore, 1) := by decide +kernel
theorem dX5_clean_41 : decode cX5_clean 41 = .ok (.aload_n 0, 1) := by decide +kernel
theorem dX5_clean_42 : decode cX5_clean 42 = .ok (.getfield 38, 3) := by decide +kernel
theorem dX5_clean_45 : decode cX5_clean 45 = .ok (.iload_n 1, 1) := by decide +kernel
theorem dX5_clean_46 : decode cX5_clean 46 = .ok (.dup2, 1) := by decide +kernel
theorem dX5_clean_47 : decode cX5_clean 47 = .ok (.iaload, 1) := by decide +kernel
theorem dX5_clean_48 : decode cX5_clean 48 = .ok (.bipush 50, 2) := by decide +kernel
theorem dX5_clean_50 : decode cX5_clean 50 = .ok (.iadd, 1) := by decide +kernel
theorem dX5_clean_51 : decode cX5_clean 51 = .ok (.iastore, 1) := by decide +kernel
theorem dX5_clean_52 : decode cX5_clean 52 = .ok (.iload_n 2, 1) := by decide +kernel
theorem dX5_clean_53 : decode cX5_clean 53 = .ok (.ireturn, 1) := by decide +kernel
set_option maxRecDepth 20000 in
theorem ggX5_clock_X5_isDrive : GoodIn wsX5_clock wsX5_isDrive := goodIn_r _ [6, 7, 8, 9, 5, 10, 16, 17, 18, 19, 20, 21, 22, 23, 24, 25, 26, 27, 28, 29, 30, 31, 32, 33, 34, 35, 36, 37, 38, 39, 40, 41] (by decide +kernel) (by decide +kernel)
set_option maxRecDepth 20000 in
theorem gX5_clock_X5_isDrive : GoodIn wsX5_clock (wsV RX5 92 RX5 yX5_isDrive wsX5_isDrive) := goodIn_app (goodIn_of _ (by decide +kernel)) ggX5_clock_X5_isDrive
set_option maxRecDepth 20000 in
theorem ggX5_clock_X5_may : GoodIn wsX5_clock wsX5_may := goodIn_r _ [14, 15, 16, 17, 18, 19, 20, 21, 22, 23, 24, 25, 26, 27, 28, 29, 30, 31, 32, 33, 34, 35, 36, 37, 38, 39, 40, 41] (by decide +kernel) (by decide +kernel)
set_option maxRecDepth 20000 in
theorem gX5_clock_X5_may : GoodIn wsX5_clock (wsV RX5 102 RX5 yX5_may wsX5_may) := goodIn_app (goodIn_of _ (by decide +kernel)) ggX5_clock_X5_may
theorem dX5_clock_0 : decode cX5_clock 0 = .ok (.aload_n 0, 1) := by decide +kernel
theorem dX5_clock_1 : decode cX5_clock 1 = .ok (.aload_n 0, 1) := by decide +kernel
theorem dX5_clock_2 : decode cX5_clock 2 = .ok (.iload_n 1, 1) := by decide +kernel
theorem dX5_clock_3 : decode cX5_clock 3 = .ok (.invokevirtual 92, 3) := by decide +kernel
theorem dX5_clock_6 : decode cX5_clock 6 = .ok (.invokevirtual 102, 3) := by decide +kernel
theorem dX5_clock_9 : decode cX5_clock 9 = .ok (.ifCond .eq 12, 3) := by decide +kernel
theorem dX5_clock_12 : decode cX5_clock 12 = .ok (.aload_n 0, 1) := by decide +kernel
theorem dX5_clock_13 : decode cX5_clock 13 = .ok (.getfield 38, 3) := by decide +kernel
theorem dX5_clock_16 : decode cX5_clock 16 = .ok (.iload_n 1, 1) := by decide +kernel
theorem dX5_clock_17 : decode cX5_clock 17 = .ok (.iaload, 1) := by decide +kernel
theorem dX5_clock_18 : decode cX5_clock 18 = .ok (.goto 4, 3) := by decide +kernel
theorem dX5_clock_21 : decode cX5_clock 21 = .ok (.iconst 0, 1) := by decide +kernel
theorem dX5_clock_22 : decode cX5_clock 22 = .ok (.ireturn, 1) := by decide +kernel
set_option maxRecDepth 20000 in
theorem ggX5_stands_X5_isDrive : GoodIn wsX5_stands wsX5_isDrive := goodIn_r _ [7, 8, 9, 10, 6, 11, 17, 18, 19, 20, 21, 22, 23, 24, 25, 26, 27, 28, 29, 30, 31, 32, 33, 34, 35, 36, 37, 38, 39, 40, 41, 42] (by decide +kernel) (by decide +kernel)
set_option maxRecDepth 20000 in
theorem gX5_stands_X5_isDrive : GoodIn wsX5_stands (wsV RX5 92 RX5 yX5_isDrive wsX5_isDrive) := goodIn_app (goodIn_of _ (by decide +kernel)) ggX5_stands_X5_isDrive
set_option maxRecDepth 20000 in
theorem ggX5_stands_X5_may : GoodIn wsX5_stands wsX5_may := goodIn_r _ [15, 16, 17, 18, 19, 20, 21, 22, 23, 24, 25, 26, 27, 28, 29, 30, 31, 32, 33, 34, 35, 36, 37, 38, 39, 40, 41, 42] (by decide +kernel) (by decide +kernel)
set_option maxRecDepth 20000 in
theorem gX5_stands_X5_may : GoodIn wsX5_stands (wsV RX5 102 RX5 yX5_may wsX5_may) := goodIn_app (goodIn_of _ (by decide +kernel)) ggX5_stands_X5_may
theorem dX5_stands_0 : decode cX5_stands 0 = .ok (.aload_n 0, 1) := by decide +kernel
theorem dX5_stands_1 : decode cX5_stands 1 = .ok (.aload_n 0, 1) := by decide +kernel
theorem dX5_stands_2 : decode cX5_stands 2 = .ok (.iload_n 1, 1) := by decide +kernel
theorem dX5_stands_3 : decode cX5_stands 3 = .ok (.invokevirtual 92, 3) := by decide +kernel
theorem dX5_stands_6 : decode cX5_stands 6 = .ok (.invokevirtual 102, 3) := by decide +kernel
theorem dX5_stands_9 : decode cX5_stands 9 = .ok (.ifCond .ne 5, 3) := by decide +kernel
theorem dX5_stands_12 : decode cX5_stands 12 = .ok (.iconst 0, 1) := by decide +kernel
theorem dX5_stands_13 : decode cX5_stands 13 = .ok (.ireturn, 1) := by decide +kernel
theorem dX5_stands_14 : decode cX5_stands 14 = .ok (.aload_n 0, 1) := by decide +kernel
theorem dX5_stands_15 : decode cX5_stands 15 = .ok (.getfield 44, 3) := by decide +kernel
theorem dX5_stands_18 : decode cX5_stands 18 = .ok (.iload_n 1, 1) := by decide +kernel
theorem dX5_stands_19 : decode cX5_stands 19 = .ok (.iaload, 1) := by decide +kernel
theorem dX5_stands_20 : decode cX5_stands 20 = .ok (.iconst (-1), 1) := by decide +kernel
theorem dX5_stands_21 : decode cX5_stands 21 = .ok (.if_icmp .ne 7, 3) := by decide +kernel
theorem dX5_stands_24 : decode cX5_stands 24 = .ok (.iconst (-1), 1) := by decide +kernel
theorem dX5_stands_25 : decode cX5_stands 25 = .ok (.goto 9, 3) := by decide +kernel
theorem dX5_stands_28 : decode cX5_stands 28 = .ok (.aload_n 0, 1) := by decide +kernel
theorem dX5_stands_29 : decode cX5_stands 29 = .ok (.getfield 47, 3) := by decide +kernel
theorem dX5_stands_32 : decode cX5_stands 32 = .ok (.iload_n 1, 1) := by decide +kernel
theorem dX5_stands_33 : decode cX5_stands 33 = .ok (.iaload, 1) := by decide +kernel
theorem dX5_stands_34 : decode cX5_stands 34 = .ok (.ireturn, 1) := by decide +kernel
theorem dX5_waits_0 : decode cX5_waits 0 = .ok (.aload_n 0, 1) := by decide +kernel
theorem dX5_waits_1 : decode cX5_waits 1 = .ok (.getfield 59, 3) := by decide +kernel
theorem dX5_waits_4 : decode cX5_waits 4 = .ok (.iload_n 1, 1) := by decide +kernel
theorem dX5_waits_5 : decode cX5_waits 5 = .ok (.baload, 1) := by decide +kernel
theorem dX5_waits_6 : decode cX5_waits 6 = .ok (.ifCond .ne 17, 3) := by decide +kernel
theorem dX5_waits_9 : decode cX5_waits 9 = .ok (.aload_n 0, 1) := by decide +kernel
theorem dX5_waits_10 : decode cX5_waits 10 = .ok (.getfield 50, 3) := by decide +kernel
theorem dX5_waits_13 : decode cX5_waits 13 = .ok (.iload_n 1, 1) := by decide +kernel
theorem dX5_waits_14 : decode cX5_waits 14 = .ok (.iaload, 1) := by decide +kernel
theorem dX5_waits_15 : decode cX5_waits 15 = .ok (.iload_n 2, 1) := by decide +kernel
theorem dX5_waits_16 : decode cX5_waits 16 = .ok (.if_icmp .ne 7, 3) := by decide +kernel
theorem dX5_waits_19 : decode cX5_waits 19 = .ok (.iconst 1, 1) := by decide +kernel
theorem dX5_waits_20 : decode cX5_waits 20 = .ok (.goto 4, 3) := by decide +kernel
theorem dX5_waits_23 : decode cX5_waits 23 = .ok (.iconst 0, 1) := by decide +kernel
theorem dX5_waits_24 : decode cX5_waits 24 = .ok (.ireturn, 1) := by decide +kernel
set_option maxRecDepth 20000 in
theorem ggX5_waitingAt_X5_waits : GoodIn wsX5_waitingAt wsX5_waits := goodIn_r _ [6, 7, 8, 9, 10, 11, 12, 13, 14, 15, 16, 17, 18, 19, 20, 21, 22, 23, 24, 25, 26, 27, 28, 29, 30, 31, 32, 33, 34] (by decide +kernel) (by decide +kernel)
set_option maxRecDepth 20000 in
theorem gX5_waitingAt_X5_waits : GoodIn wsX5_waitingAt (wsV RX5 147 RX5 yX5_waits wsX5_waits) := goodIn_app (goodIn_of _ (by decide +kernel)) ggX5_waitingAt_X5_waits
theorem dX5_waitingAt_0 : decode cX5_waitingAt 0 = .ok (.iconst 0, 1) := by decide +kernel
theorem dX5_waitingAt_1 : decode cX5_waitingAt 1 = .ok (.istore_n 2, 1) := by decide +kernel
theorem dX5_waitingAt_2 : decode cX5_waitingAt 2 = .ok (.iconst 0, 1) := by decide +kernel
theorem dX5_waitingAt_3 : decode cX5_waitingAt 3 = .ok (.istore_n 3, 1) := by decide +kernel
theorem dX5_waitingAt_4 : decode cX5_waitingAt 4 = .ok (.iload_n 3, 1) := by decide +kernel
theorem dX5_waitingAt_5 : decode cX5_waitingAt 5 = .ok (.aload_n 0, 1) := by decide +kernel
theorem dX5_waitingAt_6 : decode cX5_waitingAt 6 = .ok (.getfield 144, 3) := by decide +kernel
theorem dX5_waitingAt_9 : decode cX5_waitingAt 9 = .ok (.if_icmp .ge 26, 3) := by decide +kernel
theorem dX5_waitingAt_12 : decode cX5_waitingAt 12 = .ok (.iload_n 2, 1) := by decide +kernel
theorem dX5_waitingAt_13 : decode cX5_waitingAt 13 = .ok (.aload_n 0, 1) := by decide +kernel
theorem dX5_waitingAt_14 : decode cX5_waitingAt 14 = .ok (.iload_n 3, 1) := by decide +kernel
theorem dX5_waitingAt_15 : decode cX5_waitingAt 15 = .ok (.iload_n 1, 1) := by decide +kernel
theorem dX5_waitingAt_16 : decode cX5_waitingAt 16 = .ok (.invokevirtual 147, 3) := by decide +kernel
theorem dX5_waitingAt_19 : decode cX5_waitingAt 19 = .ok (.ifCond .eq 7, 3) := by decide +kernel
theorem dX5_waitingAt_22 : decode cX5_waitingAt 22 = .ok (.iconst 1, 1) := by decide +kernel
theorem dX5_waitingAt_23 : decode cX5_waitingAt 23 = .ok (.goto 4, 3) := by decide +kernel
theorem dX5_waitingAt_26 : decode cX5_waitingAt 26 = .ok (.iconst 0, 1) := by decide +kernel
theorem dX5_waitingAt_27 : decode cX5_waitingAt 27 = .ok (.iadd, 1) := by decide +kernel
theorem dX5_waitingAt_28 : decode cX5_waitingAt 28 = .ok (.istore_n 2, 1) := by decide +kernel
theorem dX5_waitingAt_29 : decode cX5_waitingAt 29 = .ok (.iinc 3 1, 3) := by decide +kernel
theorem dX5_waitingAt_32 : decode cX5_waitingAt 32 = .ok (.goto (-28), 3) := by decide +kernel
theorem dX5_waitingAt_35 : decode cX5_waitingAt 35 = .ok (.iload_n 2, 1) := by decide +kernel
theorem dX5_waitingAt_36 : decode cX5_waitingAt 36 = .ok (.ireturn, 1) := by decide +kernel
set_option maxRecDepth 20000 in
theorem ggX5_job_X5_isFile : GoodIn wsX5_job wsX5_isFile := goodIn_r _ [10, 11, 12, 13, 14, 9, 15, 16, 17, 18, 19, 34, 35, 36, 37, 38, 39, 40, 41, 42, 43, 44, 45, 46, 47, 48, 49, 50, 51, 52, 53, 54, 55, 56, 57, 58, 59] (by decide +kernel) (by decide +kernel)
set_option maxRecDepth 20000 in
theorem gX5_job_X5_isFile : GoodIn wsX5_job (wsV RX5 106 RX5 yX5_isFile wsX5_isFile) := goodIn_app (goodIn_of _ (by decide +kernel)) ggX5_job_X5_isFile
set_option maxRecDepth 20000 in
theorem ggX5_job_X5_isIn : GoodIn wsX5_job wsX5_isIn := goodIn_r _ [19] (by decide +kernel) (by decide +kernel)
set_option maxRecDepth 20000 in
theorem gX5_job_X5_isIn : GoodIn wsX5_job (va_wsS RX5 81 yX5_isIn wsX5_isIn) := goodIn_app (goodIn_of _ (by decide +kernel)) ggX5_job_X5_isIn
set_option maxRecDepth 20000 in
theorem ggX5_job_X5_waitingAt : GoodIn wsX5_job wsX5_waitingAt := goodIn_r _ [23, 2, 24, 25, 26, 9, 27, 28, 3, 34, 35, 36, 37, 38, 39, 40, 41, 42, 43, 44, 45, 46, 47, 48, 49, 50, 51, 52, 53, 54, 55, 56, 57, 58, 59] (by decide +kernel) (by decide +kernel)
set_option maxRecDepth 20000 in
theorem gX5_job_X5_waitingAt : GoodIn wsX5_job (wsV RX5 151 RX5 yX5_waitingAt wsX5_waitingAt) := goodIn_app (goodIn_of _ (by decide +kernel)) ggX5_job_X5_waitingAt
set_option maxRecDepth 20000 in
theorem ggX5_job_X5_mayAll : GoodIn wsX5_job wsX5_mayAll := goodIn_r _ [32, 33, 34, 35, 36, 37, 38, 39, 40, 41, 42, 43, 44, 45, 46, 47, 48, 49, 50, 51, 52, 53, 54, 55, 56, 57, 58, 59] (by decide +kernel) (by decide +kernel)
set_option maxRecDepth 20000 in
theorem gX5_job_X5_mayAll : GoodIn wsX5_job (wsV RX5 137 RX5 yX5_mayAll wsX5_mayAll) := goodIn_app (goodIn_of _ (by decide +kernel)) ggX5_job_X5_mayAll
theorem dX5_job_0 : decode cX5_job 0 = .ok (.aload_n 0, 1) := by decide +kernel
theorem dX5_job_1 : decode cX5_job 1 = .ok (.iload_n 1, 1) := by decide +kernel
theorem dX5_job_2 : decode cX5_job 2 = .ok (.iload_n 2, 1) := by decide +kernel
theorem dX5_job_3 : decode cX5_job 3 = .ok (.invokevirtual 106, 3) := by decide +kernel
theorem dX5_job_6 : decode cX5_job 6 = .ok (.istore 4, 2) := by decide +kernel
theorem dX5_job_8 : decode cX5_job 8 = .ok (.aload_n 0, 1) := by decide +kernel
theorem dX5_job_9 : decode cX5_job 9 = .ok (.iload 4, 2) := by decide +kernel
theorem dX5_job_11 : decode cX5_job 11 = .ok (.iload_n 3, 1) := by decide +kernel
theorem dX5_job_12 : decode cX5_job 12 = .ok (.iconst 0, 1) := by decide +kernel
theorem dX5_job_13 : decode cX5_job 13 = .ok (.ldc 150, 2) := by decide +kernel
theorem dX5_job_15 : decode cX5_job 15 = .ok (.invokestatic 81, 3) := by decide +kernel
theorem dX5_job_18 : decode cX5_job 18 = .ok (.iload 4, 2) := by decide +kernel
theorem dX5_job_20 : decode cX5_job 20 = .ok (.ifCond .eq 26, 3) := by decide +kernel
theorem dX5_job_23 : decode cX5_job 23 = .ok (.aload_n 0, 1) := by decide +kernel
theorem dX5_job_24 : decode cX5_job 24 = .ok (.getfield 144, 3) := by decide +kernel
theorem dX5_job_27 : decode cX5_job 27 = .ok (.bipush 60, 2) := by decide +kernel
theorem dX5_job_29 : decode cX5_job 29 = .ok (.if_icmp .ge 17, 3) := by decide +kernel
theorem dX5_job_32 : decode cX5_job 32 = .ok (.aload_n 0, 1) := by decide +kernel
theorem dX5_job_33 : decode cX5_job 33 = .ok (.iload_n 1, 1) := by decide +kernel
theorem dX5_job_34 : decode cX5_job 34 = .ok (.invokevirtual 151, 3) := by decide +kernel
theorem dX5_job_37 : decode cX5_job 37 = .ok (.bipush 7, 2) := by decide +kernel
theorem dX5_job_39 : decode cX5_job 39 = .ok (.if_icmp .ge 7, 3) := by decide +kernel
theorem dX5_job_42 : decode cX5_job 42 = .ok (.iconst 1, 1) := by decide +kernel
theorem dX5_job_43 : decode cX5_job 43 = .ok (.goto 4, 3) := by decide +kernel
theorem dX5_job_46 : decode cX5_job 46 = .ok (.iconst 0, 1) := by decide +kernel
theorem dX5_job_47 : decode cX5_job 47 = .ok (.invokevirtual 137, 3) := by decide +kernel
theorem dX5_job_50 : decode cX5_job 50 = .ok (.ifCond .ne 5, 3) := by decide +kernel
theorem dX5_job_53 : decode cX5_job 53 = .ok (.iconst 0, 1) := by decide +kernel
theorem dX5_job_54 : decode cX5_job 54 = .ok (.ireturn, 1) := by decide +kernel
theorem dX5_job_55 : decode cX5_job 55 = .ok (.aload_n 0, 1) := by decide +kernel
theorem dX5_job_56 : decode cX5_job 56 = .ok (.getfield 50, 3) := by decide +kernel
theorem dX5_job_59 : decode cX5_job 59 = .ok (.aload_n 0, 1) := by decide +kernel
theorem dX5_job_60 : decode cX5_job 60 = .ok (.getfield 144, 3) := by decide +kernel
theorem dX5_job_63 : decode cX5_job 63 = .ok (.iload_n 1, 1) := by decide +kernel
theorem dX5_job_64 : decode cX5_job 64 = .ok (.iastore, 1) := by decide +kernel
theorem dX5_job_65 : decode cX5_job 65 = .ok (.aload_n 0, 1) := by decide +kernel
theorem dX5_job_66 : decode cX5_job 66 = .ok (.getfield 53, 3) := by decide +kernel
theorem dX5_job_69 : decode cX5_job 69 = .ok (.aload_n 0, 1) := by decide +kernel
theorem dX5_job_70 : decode cX5_job 70 = .ok (.getfield 144, 3) := by decide +kernel
theorem dX5_job_73 : decode cX5_job 73 = .ok (.iload_n 2, 1) := by decide +kernel
theorem dX5_job_74 : decode cX5_job 74 = .ok (.iastore, 1) := by decide +kernel
theorem dX5_job_75 : decode cX5_job 75 = .ok (.aload_n 0, 1) := by decide +kernel
theorem dX5_job_76 : decode cX5_job 76 = .ok (.getfield 56, 3) := by decide +kernel
theorem dX5_job_79 : decode cX5_job 79 = .ok (.aload_n 0, 1) := by decide +kernel
theorem dX5_job_80 : decode cX5_job 80 = .ok (.getfield 144, 3) := by decide +kernel
theorem dX5_job_83 : decode cX5_job 83 = .ok (.iload_n 3, 1) := by decide +kernel
theorem dX5_job_84 : decode cX5_job 84 = .ok (.iastore, 1) := by decide +kernel
theorem dX5_job_85 : decode cX5_job 85 = .ok (.aload_n 0, 1) := by decide +kernel
theorem dX5_job_86 : decode cX5_job 86 = .ok (.dup, 1) := by decide +kernel
theorem dX5_job_87 : decode cX5_job 87 = .ok (.getfield 144, 3) := by decide +kernel
theorem dX5_job_90 : decode cX5_job 90 = .ok (.iconst 1, 1) := by decide +kernel
theorem dX5_job_91 : decode cX5_job 91 = .ok (.iadd, 1) := by decide +kernel
theorem dX5_job_92 : decode cX5_job 92 = .ok (.putfield 144, 3) := by decide +kernel
theorem dX5_job_95 : decode cX5_job 95 = .ok (.aload_n 0, 1) := by decide +kernel
theorem dX5_job_96 : decode cX5_job 96 = .ok (.getfield 144, 3) := by decide +kernel
theorem dX5_job_99 : decode cX5_job 99 = .ok (.iconst 1, 1) := by decide +kernel
theorem dX5_job_100 : decode cX5_job 100 = .ok (.isub, 1) := by decide +kernel
theorem dX5_job_101 : decode cX5_job 101 = .ok (.ireturn, 1) := by decide +kernel
set_option maxRecDepth 20000 in
theorem ggX5_waiting_X5_isTape : GoodIn wsX5_waiting wsX5_isTape := goodIn_r _ [5, 6, 7, 8, 4, 9, 26, 27, 28, 29, 30, 31, 32, 33, 34, 35, 36, 37, 38, 39, 40, 41, 42, 43, 44, 45, 46, 47, 48, 49, 50, 51] (by decide +kernel) (by decide +kernel)
set_option maxRecDepth 20000 in
theorem gX5_waiting_X5_isTape : GoodIn wsX5_waiting (wsV RX5 88 RX5 yX5_isTape wsX5_isTape) := goodIn_app (goodIn_of _ (by decide +kernel)) ggX5_waiting_X5_isTape
set_option maxRecDepth 20000 in
theorem ggX5_waiting_X5_may : GoodIn wsX5_waiting wsX5_may := goodIn_r _ [13, 14, 26, 27, 28, 29, 30, 31, 32, 33, 34, 35, 36, 37, 38, 39, 40, 41, 42, 43, 44, 45, 46, 47, 48, 49, 50, 51] (by decide +kernel) (by decide +kernel)
set_option maxRecDepth 20000 in
theorem gX5_waiting_X5_may : GoodIn wsX5_waiting (wsV RX5 102 RX5 yX5_may wsX5_may) := goodIn_app (goodIn_of _ (by decide +kernel)) ggX5_waiting_X5_may
set_option maxRecDepth 20000 in
theorem ggX5_waiting_X5_waitingAt : GoodIn wsX5_waiting wsX5_waitingAt := goodIn_r _ [18, 19, 20, 21, 22, 4, 23, 24, 25, 26, 27, 28, 29, 30, 31, 32, 33, 34, 35, 36, 37, 38, 39, 40, 41, 42, 43, 44, 45, 46, 47, 48, 49, 50, 51] (by decide +kernel) (by decide +kernel)
set_option maxRecDepth 20000 in
theorem gX5_waiting_X5_waitingAt : GoodIn wsX5_waiting (wsV RX5 151 RX5 yX5_waitingAt wsX5_waitingAt) := goodIn_app (goodIn_of _ (by decide +kernel)) ggX5_waiting_X5_waitingAt
theorem dX5_waiting_0 : decode cX5_waiting 0 = .ok (.aload_n 0, 1) := by decide +kernel
theorem dX5_waiting_1 : decode cX5_waiting 1 = .ok (.aload_n 0, 1) := by decide +kernel
theorem dX5_waiting_2 : decode cX5_waiting 2 = .ok (.iload_n 1, 1) := by decide +kernel
theorem dX5_waiting_3 : decode cX5_waiting 3 = .ok (.invokevirtual 88, 3) := by decide +kernel
theorem dX5_waiting_6 : decode cX5_waiting 6 = .ok (.invokevirtual 102, 3) := by decide +kernel
theorem dX5_waiting_9 : decode cX5_waiting 9 = .ok (.ifCond .eq 11, 3) := by decide +kernel
theorem dX5_waiting_12 : decode cX5_waiting 12 = .ok (.aload_n 0, 1) := by decide +kernel
theorem dX5_waiting_13 : decode cX5_waiting 13 = .ok (.iload_n 1, 1) := by decide +kernel
theorem dX5_waiting_14 : decode cX5_waiting 14 = .ok (.invokevirtual 151, 3) := by decide +kernel
theorem dX5_waiting_17 : decode cX5_waiting 17 = .ok (.goto 4, 3) := by decide +kernel
theorem dX5_waiting_20 : decode cX5_waiting 20 = .ok (.iconst 0, 1) := by decide +kernel
theorem dX5_waiting_21 : decode cX5_waiting 21 = .ok (.ireturn, 1) := by decide +kernel
set_option maxRecDepth 20000 in
theorem ggX5_earliest_X5_waits : GoodIn wsX5_earliest wsX5_waits := goodIn_r _ [8, 9, 10, 11, 12, 13, 14, 15, 16, 17, 18, 19, 20, 21, 22, 23, 24, 25, 26, 27, 28, 29, 30, 31, 32, 33, 34, 35, 36] (by decide +kernel) (by decide +kernel)
set_option maxRecDepth 20000 in
theorem gX5_earliest_X5_waits : GoodIn wsX5_earliest (wsV RX5 147 RX5 yX5_waits wsX5_waits) := goodIn_app (goodIn_of _ (by decide +kernel)) ggX5_earliest_X5_waits
theorem dX5_earliest_0 : decode cX5_earliest 0 = .ok (.ldc 154, 2) := by decide +kernel
theorem dX5_earliest_2 : decode cX5_earliest 2 = .ok (.istore_n 2, 1) := by decide +kernel
theorem dX5_earliest_3 : decode cX5_earliest 3 = .ok (.iconst 0, 1) := by decide +kernel
theorem dX5_earliest_4 : decode cX5_earliest 4 = .ok (.istore_n 3, 1) := by decide +kernel
theorem dX5_earliest_5 : decode cX5_earliest 5 = .ok (.iload_n 3, 1) := by decide +kernel
theorem dX5_earliest_6 : decode cX5_earliest 6 = .ok (.aload_n 0, 1) := by decide +kernel
theorem dX5_earliest_7 : decode cX5_earliest 7 = .ok (.getfield 144, 3) := by decide +kernel
theorem dX5_earliest_10 : decode cX5_earliest 10 = .ok (.if_icmp .ge 39, 3) := by decide +kernel
theorem dX5_earliest_13 : decode cX5_earliest 13 = .ok (.aload_n 0, 1) := by decide +kernel
theorem dX5_earliest_14 : decode cX5_earliest 14 = .ok (.iload_n 3, 1) := by decide +kernel
theorem dX5_earliest_15 : decode cX5_earliest 15 = .ok (.iload_n 1, 1) := by decide +kernel
theorem dX5_earliest_16 : decode cX5_earliest 16 = .ok (.invokevirtual 147, 3) := by decide +kernel
theorem dX5_earliest_19 : decode cX5_earliest 19 = .ok (.ifCond .eq 22, 3) := by decide +kernel
theorem dX5_earliest_22 : decode cX5_earliest 22 = .ok (.aload_n 0, 1) := by decide +kernel
theorem dX5_earliest_23 : decode cX5_earliest 23 = .ok (.getfield 56, 3) := by decide +kernel
theorem dX5_earliest_26 : decode cX5_earliest 26 = .ok (.iload_n 3, 1) := by decide +kernel
theorem dX5_earliest_27 : decode cX5_earliest 27 = .ok (.iaload, 1) := by decide +kernel
theorem dX5_earliest_28 : decode cX5_earliest 28 = .ok (.iload_n 2, 1) := by decide +kernel
theorem dX5_earliest_29 : decode cX5_earliest 29 = .ok (.if_icmp .ge 12, 3) := by decide +kernel
theorem dX5_earliest_32 : decode cX5_earliest 32 = .ok (.aload_n 0, 1) := by decide +kernel
theorem dX5_earliest_33 : decode cX5_earliest 33 = .ok (.getfield 56, 3) := by decide +kernel
theorem dX5_earliest_36 : decode cX5_earliest 36 = .ok (.iload_n 3, 1) := by decide +kernel
theorem dX5_earliest_37 : decode cX5_earliest 37 = .ok (.iaload, 1) := by decide +kernel
theorem dX5_earliest_38 : decode cX5_earliest 38 = .ok (.goto 4, 3) := by decide +kernel
theorem dX5_earliest_41 : decode cX5_earliest 41 = .ok (.iload_n 2, 1) := by decide +kernel
theorem dX5_earliest_42 : decode cX5_earliest 42 = .ok (.istore_n 2, 1) := by decide +kernel
theorem dX5_earliest_43 : decode cX5_earliest 43 = .ok (.iinc 3 1, 3) := by decide +kernel
theorem dX5_earliest_46 : decode cX5_earliest 46 = .ok (.goto (-41), 3) := by decide +kernel
theorem dX5_earliest_49 : decode cX5_earliest 49 = .ok (.iload_n 2, 1) := by decide +kernel
theorem dX5_earliest_50 : decode cX5_earliest 50 = .ok (.ireturn, 1) := by decide +kernel
set_option maxRecDepth 20000 in
theorem ggX5_next_X5_waitingAt : GoodIn wsX5_next wsX5_waitingAt := goodIn_r _ [9, 10, 11, 12, 13, 8, 14, 15, 16, 23, 24, 25, 26, 27, 28, 29, 30, 31, 32, 33, 34, 35, 36, 37, 38, 39, 40, 41, 42, 43, 44, 45, 46, 47, 48] (by decide +kernel) (by decide +kernel)
set_option maxRecDepth 20000 in
theorem gX5_next_X5_waitingAt : GoodIn wsX5_next (wsV RX5 151 RX5 yX5_waitingAt wsX5_waitingAt) := goodIn_app (goodIn_of _ (by decide +kernel)) ggX5_next_X5_waitingAt
set_option maxRecDepth 20000 in
theorem ggX5_next_X5_earliest : GoodIn wsX5_next wsX5_earliest := goodIn_r _ [20, 21, 10, 22, 11, 12, 13, 8, 14, 15, 16, 23, 24, 25, 26, 27, 28, 29, 30, 31, 32, 33, 34, 35, 36, 37, 38, 39, 40, 41, 42, 43, 44, 45, 46, 47, 48] (by decide +kernel) (by decide +kernel)
set_option maxRecDepth 20000 in
theorem gX5_next_X5_earliest : GoodIn wsX5_next (wsV RX5 155 RX5 yX5_earliest wsX5_earliest) := goodIn_app (goodIn_of _ (by decide +kernel)) ggX5_next_X5_earliest
theorem dX5_next_0 : decode cX5_next 0 = .ok (.aload_n 0, 1) := by decide +kernel
theorem dX5_next_1 : decode cX5_next 1 = .ok (.iconst 0, 1) := by decide +kernel
theorem dX5_next_2 : decode cX5_next 2 = .ok (.putfield 74, 3) := by decide +kernel
theorem dX5_next_5 : decode cX5_next 5 = .ok (.iconst (-1), 1) := by decide +kernel
theorem dX5_next_6 : decode cX5_next 6 = .ok (.istore_n 1, 1) := by decide +kernel
theorem dX5_next_7 : decode cX5_next 7 = .ok (.iconst 0, 1) := by decide +kernel
theorem dX5_next_8 : decode cX5_next 8 = .ok (.istore_n 2, 1) := by decide +kernel
theorem dX5_next_9 : decode cX5_next 9 = .ok (.iload_n 2, 1) := by decide +kernel
theorem dX5_next_10 : decode cX5_next 10 = .ok (.aload_n 0, 1) := by decide +kernel
theorem dX5_next_11 : decode cX5_next 11 = .ok (.getfield 78, 3) := by decide +kernel
theorem dX5_next_14 : decode cX5_next 14 = .ok (.if_icmp .ge 106, 3) := by decide +kernel
theorem dX5_next_17 : decode cX5_next 17 = .ok (.aload_n 0, 1) := by decide +kernel
theorem dX5_next_18 : decode cX5_next 18 = .ok (.getfield 19, 3) := by decide +kernel
theorem dX5_next_21 : decode cX5_next 21 = .ok (.iload_n 2, 1) := by decide +kernel
theorem dX5_next_22 : decode cX5_next 22 = .ok (.iaload, 1) := by decide +kernel
theorem dX5_next_23 : decode cX5_next 23 = .ok (.iconst (-1), 1) := by decide +kernel
theorem dX5_next_24 : decode cX5_next 24 = .ok (.if_icmp .ne 90, 3) := by decide +kernel
theorem dX5_next_27 : decode cX5_next 27 = .ok (.aload_n 0, 1) := by decide +kernel
theorem dX5_next_28 : decode cX5_next 28 = .ok (.getfield 22, 3) := by decide +kernel
theorem dX5_next_31 : decode cX5_next 31 = .ok (.iload_n 2, 1) := by decide +kernel
theorem dX5_next_32 : decode cX5_next 32 = .ok (.baload, 1) := by decide +kernel
theorem dX5_next_33 : decode cX5_next 33 = .ok (.ifCond .ne 81, 3) := by decide +kernel
theorem dX5_next_36 : decode cX5_next 36 = .ok (.aload_n 0, 1) := by decide +kernel
theorem dX5_next_37 : decode cX5_next 37 = .ok (.iload_n 2, 1) := by decide +kernel
theorem dX5_next_38 : decode cX5_next 38 = .ok (.invokevirtual 151, 3) := by decide +kernel
theorem dX5_next_41 : decode cX5_next 41 = .ok (.ifCond .le 73, 3) := by decide +kernel
theorem dX5_next_44 : decode cX5_next 44 = .ok (.iload_n 1, 1) := by decide +kernel
theorem dX5_next_45 : decode cX5_next 45 = .ok (.iconst (-1), 1) := by decide +kernel
theorem dX5_next_46 : decode cX5_next 46 = .ok (.if_icmp .eq 16, 3) := by decide +kernel
theorem dX5_next_49 : decode cX5_next 49 = .ok (.aload_n 0, 1) := by decide +kernel
theorem dX5_next_50 : decode cX5_next 50 = .ok (.iload_n 2, 1) := by decide +kernel
theorem dX5_next_51 : decode cX5_next 51 = .ok (.invokevirtual 155, 3) := by decide +kernel
theorem dX5_next_54 : decode cX5_next 54 = .ok (.aload_n 0, 1) := by decide +kernel
theorem dX5_next_55 : decode cX5_next 55 = .ok (.iload_n 1, 1) := by decide +kernel
theorem dX5_next_56 : decode cX5_next 56 = .ok (.invokevirtual 155, 3) := by decide +kernel
theorem dX5_next_59 : decode cX5_next 59 = .ok (.if_icmp .ge 7, 3) := by decide +kernel
theorem dX5_next_62 : decode cX5_next 62 = .ok (.iconst 1, 1) := by decide +kernel
theorem dX5_next_63 : decode cX5_next 63 = .ok (.goto 4, 3) := by decide +kernel
theorem dX5_next_66 : decode cX5_next 66 = .ok (.iconst 0, 1) := by decide +kernel
theorem dX5_next_67 : decode cX5_next 67 = .ok (.istore_n 3, 1) := by decide +kernel
theorem dX5_next_68 : decode cX5_next 68 = .ok (.iload_n 3, 1) := by decide +kernel
theorem dX5_next_69 : decode cX5_next 69 = .ok (.ifCond .ne 29, 3) := by decide +kernel
theorem dX5_next_72 : decode cX5_next 72 = .ok (.aload_n 0, 1) := by decide +kernel
theorem dX5_next_73 : decode cX5_next 73 = .ok (.iload_n 2, 1) := by decide +kernel
theorem dX5_next_74 : decode cX5_next 74 = .ok (.invokevirtual 155, 3) := by decide +kernel
theorem dX5_next_77 : decode cX5_next 77 = .ok (.aload_n 0, 1) := by decide +kernel
theorem dX5_next_78 : decode cX5_next 78 = .ok (.iload_n 1, 1) := by decide +kernel
theorem dX5_next_79 : decode cX5_next 79 = .ok (.invokevirtual 155, 3) := by decide +kernel
theorem dX5_next_82 : decode cX5_next 82 = .ok (.if_icmp .ne 20, 3) := by decide +kernel
theorem dX5_next_85 : decode cX5_next 85 = .ok (.aload_n 0, 1) := by decide +kernel
theorem dX5_next_86 : decode cX5_next 86 = .ok (.iload_n 2, 1) := by decide +kernel
theorem dX5_next_87 : decode cX5_next 87 = .ok (.invokevirtual 151, 3) := by decide +kernel
theorem dX5_next_90 : decode cX5_next 90 = .ok (.aload_n 0, 1) := by decide +kernel
theorem dX5_next_91 : decode cX5_next 91 = .ok (.iload_n 1, 1) := by decide +kernel
theorem dX5_next_92 : decode cX5_next 92 = .ok (.invokevirtual 151, 3) := by decide +kernel
theorem dX5_next_95 : decode cX5_next 95 = .ok (.if_icmp .le 7, 3) := by decide +kernel
theorem dX5_next_98 : decode cX5_next 98 = .ok (.iconst 1, 1) := by decide +kernel
theorem dX5_next_99 : decode cX5_next 99 = .ok (.goto 4, 3) := by decide +kernel
theorem dX5_next_102 : decode cX5_next 102 = .ok (.iconst 0, 1) := by decide +kernel
theorem dX5_next_103 : decode cX5_next 103 = .ok (.istore_n 3, 1) := by decide +kernel
theorem dX5_next_104 : decode cX5_next 104 = .ok (.iload_n 3, 1) := by decide +kernel
theorem dX5_next_105 : decode cX5_next 105 = .ok (.ifCond .eq 7, 3) := by decide +kernel
theorem dX5_next_108 : decode cX5_next 108 = .ok (.iload_n 2, 1) := by decide +kernel
theorem dX5_next_109 : decode cX5_next 109 = .ok (.goto 4, 3) := by decide +kernel
theorem dX5_next_112 : decode cX5_next 112 = .ok (.iload_n 1, 1) := by decide +kernel
theorem dX5_next_113 : decode cX5_next 113 = .ok (.istore_n 1, 1) := by decide +kernel
theorem dX5_next_114 : decode cX5_next 114 = .ok (.iinc 2 1, 3) := by decide +kernel
theorem dX5_next_117 : decode cX5_next 117 = .ok (.goto (-108), 3) := by decide +kernel
theorem dX5_next_120 : decode cX5_next 120 = .ok (.iload_n 1, 1) := by decide +kernel
theorem dX5_next_121 : decode cX5_next 121 = .ok (.ireturn, 1) := by decide +kernel
theorem dX5_startOf_0 : decode cX5_startOf 0 = .ok (.aload_n 0, 1) := by decide +kernel
theorem dX5_startOf_1 : decode cX5_startOf 1 = .ok (.getfield 29, 3) := by decide +kernel
theorem dX5_startOf_4 : decode cX5_startOf 4 = .ok (.bipush 10, 2) := by decide +kernel
theorem dX5_startOf_6 : decode cX5_startOf 6 = .ok (.aload_n 0, 1) := by decide +kernel
theorem dX5_startOf_7 : decode cX5_startOf 7 = .ok (.getfield 50, 3) := by decide +kernel
theorem dX5_startOf_10 : decode cX5_startOf 10 = .ok (.aload_n 0, 1) := by decide +kernel
theorem dX5_startOf_11 : decode cX5_startOf 11 = .ok (.getfield 62, 3) := by decide +kernel
theorem dX5_startOf_14 : decode cX5_startOf 14 = .ok (.iload_n 1, 1) := by decide +kernel
theorem dX5_startOf_15 : decode cX5_startOf 15 = .ok (.iaload, 1) := by decide +kernel
theorem dX5_startOf_16 : decode cX5_startOf 16 = .ok (.iaload, 1) := by decide +kernel
theorem dX5_startOf_17 : decode cX5_startOf 17 = .ok (.imul, 1) := by decide +kernel
theorem dX5_startOf_18 : decode cX5_startOf 18 = .ok (.aload_n 0, 1) := by decide +kernel
theorem dX5_startOf_19 : decode cX5_startOf 19 = .ok (.getfield 53, 3) := by decide +kernel
theorem dX5_startOf_22 : decode cX5_startOf 22 = .ok (.aload_n 0, 1) := by decide +kernel
theorem dX5_startOf_23 : decode cX5_startOf 23 = .ok (.getfield 62, 3) := by decide +kernel
theorem dX5_startOf_26 : decode cX5_startOf 26 = .ok (.iload_n 1, 1) := by decide +kernel
theorem dX5_startOf_27 : decode cX5_startOf 27 = .ok (.iaload, 1) := by decide +kernel
theorem dX5_startOf_28 : decode cX5_startOf 28 = .ok (.iaload, 1) := by decide +kernel
theorem dX5_startOf_29 : decode cX5_startOf 29 = .ok (.iadd, 1) := by decide +kernel
theorem dX5_startOf_30 : decode cX5_startOf 30 = .ok (.iaload, 1) := by decide +kernel
theorem dX5_startOf_31 : decode cX5_startOf 31 = .ok (.ireturn, 1) := by decide +kernel
theorem dX5_blocksOf_0 : decode cX5_blocksOf 0 = .ok (.aload_n 0, 1) := by decide +kernel
theorem dX5_blocksOf_1 : decode cX5_blocksOf 1 = .ok (.getfield 32, 3) := by decide +kernel
theorem dX5_blocksOf_4 : decode cX5_blocksOf 4 = .ok (.bipush 10, 2) := by decide +kernel
theorem dX5_blocksOf_6 : decode cX5_blocksOf 6 = .ok (.aload_n 0, 1) := by decide +kernel
theorem dX5_blocksOf_7 : decode cX5_blocksOf 7 = .ok (.getfield 50, 3) := by decide +kernel
theorem dX5_blocksOf_10 : decode cX5_blocksOf 10 = .ok (.aload_n 0, 1) := by decide +kernel
theorem dX5_blocksOf_11 : decode cX5_blocksOf 11 = .ok (.getfield 62, 3) := by decide +kernel
theorem dX5_blocksOf_14 : decode cX5_blocksOf 14 = .ok (.iload_n 1, 1) := by decide +kernel
theorem dX5_blocksOf_15 : decode cX5_blocksOf 15 = .ok (.iaload, 1) := by decide +kernel
theorem dX5_blocksOf_16 : decode cX5_blocksOf 16 = .ok (.iaload, 1) := by decide +kernel
theorem dX5_blocksOf_17 : decode cX5_blocksOf 17 = .ok (.imul, 1) := by decide +kernel
theorem dX5_blocksOf_18 : decode cX5_blocksOf 18 = .ok (.aload_n 0, 1) := by decide +kernel
theorem dX5_blocksOf_19 : decode cX5_blocksOf 19 = .ok (.getfield 53, 3) := by decide +kernel
theorem dX5_blocksOf_22 : decode cX5_blocksOf 22 = .ok (.aload_n 0, 1) := by decide +kernel
theorem dX5_blocksOf_23 : decode cX5_blocksOf 23 = .ok (.getfield 62, 3) := by decide +kernel
theorem dX5_blocksOf_26 : decode cX5_blocksOf 26 = .ok (.iload_n 1, 1) := by decide +kernel
theorem dX5_blocksOf_27 : decode cX5_blocksOf 27 = .ok (.iaload, 1) := by decide +kernel
theorem dX5_blocksOf_28 : decode cX5_blocksOf 28 = .ok (.iaload, 1) := by decide +kernel
theorem dX5_blocksOf_29 : decode cX5_blocksOf 29 = .ok (.iadd, 1) := by decide +kernel
theorem dX5_blocksOf_30 : decode cX5_blocksOf 30 = .ok (.iaload, 1) := by decide +kernel
theorem dX5_blocksOf_31 : decode cX5_blocksOf 31 = .ok (.ireturn, 1) := by decide +kernel
set_option maxRecDepth 20000 in
theorem ggX5_timeOf_X5_startOf : GoodIn wsX5_timeOf wsX5_startOf := goodIn_r _ [6, 7, 8, 9, 10, 35, 36, 37, 38, 39, 40, 41, 42, 43, 44, 45, 46, 47, 48, 49, 50, 51, 52, 53, 54, 55, 56, 57, 58, 59, 60] (by decide +kernel) (by decide +kernel)
set_option maxRecDepth 20000 in
theorem gX5_timeOf_X5_startOf : GoodIn wsX5_timeOf (wsV RX5 158 RX5 yX5_startOf wsX5_startOf) := goodIn_app (goodIn_of _ (by decide +kernel)) ggX5_timeOf_X5_startOf
set_option maxRecDepth 20000 in
theorem ggX5_timeOf_X5_blocksOf : GoodIn wsX5_timeOf wsX5_blocksOf := goodIn_r _ [14, 15, 8, 9, 10, 35, 36, 37, 38, 39, 40, 41, 42, 43, 44, 45, 46, 47, 48, 49, 50, 51, 52, 53, 54, 55, 56, 57, 58, 59, 60] (by decide +kernel) (by decide +kernel)
set_option maxRecDepth 20000 in
theorem gX5_timeOf_X5_blocksOf : GoodIn wsX5_timeOf (wsV RX5 161 RX5 yX5_blocksOf wsX5_blocksOf) := goodIn_app (goodIn_of _ (by decide +kernel)) ggX5_timeOf_X5_blocksOf
set_option maxRecDepth 20000 in
theorem ggX5_timeOf_X5_way : GoodIn wsX5_timeOf wsX5_way := goodIn_r _ [19, 20, 21, 22, 23, 24, 25, 26, 5, 27, 28, 29, 30, 31, 32, 33, 34, 35, 36, 37, 38, 39, 40, 41, 42, 43, 44, 45, 46, 47, 48, 49, 50, 51, 52, 53, 54, 55, 56, 57, 58, 59, 60] (by decide +kernel) (by decide +kernel)
set_option maxRecDepth 20000 in
theorem gX5_timeOf_X5_way : GoodIn wsX5_timeOf (wsV RX5 127 RX5 yX5_way wsX5_way) := goodIn_app (goodIn_of _ (by decide +kernel)) ggX5_timeOf_X5_way
theorem dX5_timeOf_0 : decode cX5_timeOf 0 = .ok (.iload_n 2, 1) := by decide +kernel
theorem dX5_timeOf_1 : decode cX5_timeOf 1 = .ok (.bipush 7, 2) := by decide +kernel
theorem dX5_timeOf_3 : decode cX5_timeOf 3 = .ok (.if_icmp .ne 12, 3) := by decide +kernel
theorem dX5_timeOf_6 : decode cX5_timeOf 6 = .ok (.aload_n 0, 1) := by decide +kernel
theorem dX5_timeOf_7 : decode cX5_timeOf 7 = .ok (.getfield 47, 3) := by decide +kernel
theorem dX5_timeOf_10 : decode cX5_timeOf 10 = .ok (.iload_n 1, 1) := by decide +kernel
theorem dX5_timeOf_11 : decode cX5_timeOf 11 = .ok (.iaload, 1) := by decide +kernel
theorem dX5_timeOf_12 : decode cX5_timeOf 12 = .ok (.goto 14, 3) := by decide +kernel
theorem dX5_timeOf_15 : decode cX5_timeOf 15 = .ok (.aload_n 0, 1) := by decide +kernel
theorem dX5_timeOf_16 : decode cX5_timeOf 16 = .ok (.iload_n 2, 1) := by decide +kernel
theorem dX5_timeOf_17 : decode cX5_timeOf 17 = .ok (.invokevirtual 158, 3) := by decide +kernel
theorem dX5_timeOf_20 : decode cX5_timeOf 20 = .ok (.aload_n 0, 1) := by decide +kernel
theorem dX5_timeOf_21 : decode cX5_timeOf 21 = .ok (.iload_n 2, 1) := by decide +kernel
theorem dX5_timeOf_22 : decode cX5_timeOf 22 = .ok (.invokevirtual 161, 3) := by decide +kernel
theorem dX5_timeOf_25 : decode cX5_timeOf 25 = .ok (.iadd, 1) := by decide +kernel
theorem dX5_timeOf_26 : decode cX5_timeOf 26 = .ok (.istore 4, 2) := by decide +kernel
theorem dX5_timeOf_28 : decode cX5_timeOf 28 = .ok (.aload_n 0, 1) := by decide +kernel
theorem dX5_timeOf_29 : decode cX5_timeOf 29 = .ok (.iload_n 1, 1) := by decide +kernel
theorem dX5_timeOf_30 : decode cX5_timeOf 30 = .ok (.iload 4, 2) := by decide +kernel
theorem dX5_timeOf_32 : decode cX5_timeOf 32 = .ok (.aload_n 0, 1) := by decide +kernel
theorem dX5_timeOf_33 : decode cX5_timeOf 33 = .ok (.iload_n 3, 1) := by decide +kernel
theorem dX5_timeOf_34 : decode cX5_timeOf 34 = .ok (.invokevirtual 158, 3) := by decide +kernel
theorem dX5_timeOf_37 : decode cX5_timeOf 37 = .ok (.invokevirtual 127, 3) := by decide +kernel
theorem dX5_timeOf_40 : decode cX5_timeOf 40 = .ok (.iconst 3, 1) := by decide +kernel
theorem dX5_timeOf_41 : decode cX5_timeOf 41 = .ok (.aload_n 0, 1) := by decide +kernel
theorem dX5_timeOf_42 : decode cX5_timeOf 42 = .ok (.iload_n 3, 1) := by decide +kernel
theorem dX5_timeOf_43 : decode cX5_timeOf 43 = .ok (.invokevirtual 161, 3) := by decide +kernel
theorem dX5_timeOf_46 : decode cX5_timeOf 46 = .ok (.imul, 1) := by decide +kernel
theorem dX5_timeOf_47 : decode cX5_timeOf 47 = .ok (.iadd, 1) := by decide +kernel
theorem dX5_timeOf_48 : decode cX5_timeOf 48 = .ok (.ireturn, 1) := by decide +kernel
set_option maxRecDepth 20000 in
theorem ggX5_listJobs_X5_waits : GoodIn wsX5_listJobs wsX5_waits := goodIn_r _ [9, 10, 11, 12, 13, 14, 15, 16, 17, 18, 19, 20, 21, 22, 23, 24, 25, 26, 27, 28, 29, 30, 31, 32, 33, 34, 35, 36, 37] (by decide +kernel) (by decide +kernel)
set_option maxRecDepth 20000 in
theorem gX5_listJobs_X5_waits : GoodIn wsX5_listJobs (wsV RX5 147 RX5 yX5_waits wsX5_waits) := goodIn_app (goodIn_of _ (by decide +kernel)) ggX5_listJobs_X5_waits
theorem dX5_listJobs_0 : decode cX5_listJobs 0 = .ok (.aload_n 0, 1) := by decide +kernel
theorem dX5_listJobs_1 : decode cX5_listJobs 1 = .ok (.iconst 0, 1) := by decide +kernel
theorem dX5_listJobs_2 : decode cX5_listJobs 2 = .ok (.putfield 164, 3) := by decide +kernel
theorem dX5_listJobs_5 : decode cX5_listJobs 5 = .ok (.iconst 0, 1) := by decide +kernel
theorem dX5_listJobs_6 : decode cX5_listJobs 6 = .ok (.istore_n 2, 1) := by decide +kernel
theorem dX5_listJobs_7 : decode cX5_listJobs 7 = .ok (.iload_n 2, 1) := by decide +kernel
theorem dX5_listJobs_8 : decode cX5_listJobs 8 = .ok (.aload_n 0, 1) := by decide +kernel
theorem dX5_listJobs_9 : decode cX5_listJobs 9 = .ok (.getfield 144, 3) := by decide +kernel
theorem dX5_listJobs_12 : decode cX5_listJobs 12 = .ok (.if_icmp .ge 43, 3) := by decide +kernel
theorem dX5_listJobs_15 : decode cX5_listJobs 15 = .ok (.aload_n 0, 1) := by decide +kernel
theorem dX5_listJobs_16 : decode cX5_listJobs 16 = .ok (.iload_n 2, 1) := by decide +kernel
theorem dX5_listJobs_17 : decode cX5_listJobs 17 = .ok (.aload_n 0, 1) := by decide +kernel
theorem dX5_listJobs_18 : decode cX5_listJobs 18 = .ok (.getfield 44, 3) := by decide +kernel
theorem dX5_listJobs_21 : decode cX5_listJobs 21 = .ok (.iload_n 1, 1) := by decide +kernel
theorem dX5_listJobs_22 : decode cX5_listJobs 22 = .ok (.iaload, 1) := by decide +kernel
theorem dX5_listJobs_23 : decode cX5_listJobs 23 = .ok (.invokevirtual 147, 3) := by decide +kernel
theorem dX5_listJobs_26 : decode cX5_listJobs 26 = .ok (.ifCond .eq 23, 3) := by decide +kernel
theorem dX5_listJobs_29 : decode cX5_listJobs 29 = .ok (.aload_n 0, 1) := by decide +kernel
theorem dX5_listJobs_30 : decode cX5_listJobs 30 = .ok (.getfield 62, 3) := by decide +kernel
theorem dX5_listJobs_33 : decode cX5_listJobs 33 = .ok (.aload_n 0, 1) := by decide +kernel
theorem dX5_listJobs_34 : decode cX5_listJobs 34 = .ok (.getfield 164, 3) := by decide +kernel
theorem dX5_listJobs_37 : decode cX5_listJobs 37 = .ok (.iload_n 2, 1) := by decide +kernel
theorem dX5_listJobs_38 : decode cX5_listJobs 38 = .ok (.iastore, 1) := by decide +kernel
theorem dX5_listJobs_39 : decode cX5_listJobs 39 = .ok (.aload_n 0, 1) := by decide +kernel
theorem dX5_listJobs_40 : decode cX5_listJobs 40 = .ok (.dup, 1) := by decide +kernel
theorem dX5_listJobs_41 : decode cX5_listJobs 41 = .ok (.getfield 164, 3) := by decide +kernel
theorem dX5_listJobs_44 : decode cX5_listJobs 44 = .ok (.iconst 1, 1) := by decide +kernel
theorem dX5_listJobs_45 : decode cX5_listJobs 45 = .ok (.iadd, 1) := by decide +kernel
theorem dX5_listJobs_46 : decode cX5_listJobs 46 = .ok (.putfield 164, 3) := by decide +kernel
theorem dX5_listJobs_49 : decode cX5_listJobs 49 = .ok (.iinc 2 1, 3) := by decide +kernel
theorem dX5_listJobs_52 : decode cX5_listJobs 52 = .ok (.goto (-45), 3) := by decide +kernel
theorem dX5_listJobs_55 : decode cX5_listJobs 55 = .ok (.return_, 1) := by decide +kernel
set_option maxRecDepth 20000 in
theorem ggX5_arrange_X5_listJobs : GoodIn wsX5_arrange wsX5_listJobs := goodIn_r _ [9, 1, 10, 11, 12, 13, 14, 15, 8, 16, 17, 18, 53, 54, 55, 56, 57, 58, 59, 60, 61, 62, 63, 64, 65, 66, 67, 68, 69, 70, 71, 72, 73, 74, 75, 76, 77, 78] (by decide +kernel) (by decide +kernel)
set_option maxRecDepth 20000 in
theorem gX5_arrange_X5_listJobs : GoodIn wsX5_arrange (wsV RX5 167 RX5 yX5_listJobs wsX5_listJobs) := goodIn_app (goodIn_of _ (by decide +kernel)) ggX5_arrange_X5_listJobs
set_option maxRecDepth 20000 in
theorem ggX5_arrange_X5_timeOf : GoodIn wsX5_arrange wsX5_timeOf := goodIn_r _ [22, 23, 24, 25, 26, 8, 27, 28, 18, 12, 29, 30, 31, 32, 33, 34, 35, 36, 37, 38, 11, 39, 40, 41, 42, 43, 44, 45, 46, 47, 48, 49, 50, 51, 52, 53, 54, 55, 56, 57, 58, 59, 60, 61, 62, 63, 64, 65, 66, 67, 68, 69, 70, 71, 72, 73, 74, 75, 76, 77, 78] (by decide +kernel) (by decide +kernel)
set_option maxRecDepth 20000 in
theorem gX5_arrange_X5_timeOf : GoodIn wsX5_arrange (wsV RX5 172 RX5 yX5_timeOf wsX5_timeOf) := goodIn_app (goodIn_of _ (by decide +kernel)) ggX5_arrange_X5_timeOf
theorem dX5_arrange_0 : decode cX5_arrange 0 = .ok (.aload_n 0, 1) := by decide +kernel
theorem dX5_arrange_1 : decode cX5_arrange 1 = .ok (.iload_n 1, 1) := by decide +kernel
theorem dX5_arrange_2 : decode cX5_arrange 2 = .ok (.invokevirtual 167, 3) := by decide +kernel
theorem dX5_arrange_5 : decode cX5_arrange 5 = .ok (.iconst 0, 1) := by decide +kernel
theorem dX5_arrange_6 : decode cX5_arrange 6 = .ok (.istore_n 2, 1) := by decide +kernel
theorem dX5_arrange_7 : decode cX5_arrange 7 = .ok (.iload_n 2, 1) := by decide +kernel
theorem dX5_arrange_8 : decode cX5_arrange 8 = .ok (.iconst 1, 1) := by decide +kernel
theorem dX5_arrange_9 : decode cX5_arrange 9 = .ok (.aload_n 0, 1) := by decide +kernel
theorem dX5_arrange_10 : decode cX5_arrange 10 = .ok (.getfield 164, 3) := by decide +kernel
theorem dX5_arrange_13 : decode cX5_arrange 13 = .ok (.ishl, 1) := by decide +kernel
theorem dX5_arrange_14 : decode cX5_arrange 14 = .ok (.if_icmp .ge 134, 3) := by decide +kernel
theorem dX5_arrange_17 : decode cX5_arrange 17 = .ok (.iconst 0, 1) := by decide +kernel
theorem dX5_arrange_18 : decode cX5_arrange 18 = .ok (.istore_n 3, 1) := by decide +kernel
theorem dX5_arrange_19 : decode cX5_arrange 19 = .ok (.iload_n 3, 1) := by decide +kernel
theorem dX5_arrange_20 : decode cX5_arrange 20 = .ok (.bipush 8, 2) := by decide +kernel
theorem dX5_arrange_22 : decode cX5_arrange 22 = .ok (.if_icmp .ge 120, 3) := by decide +kernel
theorem dX5_arrange_25 : decode cX5_arrange 25 = .ok (.iload_n 2, 1) := by decide +kernel
theorem dX5_arrange_26 : decode cX5_arrange 26 = .ok (.ifCond .ne 7, 3) := by decide +kernel
theorem dX5_arrange_29 : decode cX5_arrange 29 = .ok (.iconst 0, 1) := by decide +kernel
theorem dX5_arrange_30 : decode cX5_arrange 30 = .ok (.goto 5, 3) := by decide +kernel
theorem dX5_arrange_33 : decode cX5_arrange 33 = .ok (.ldc 171, 2) := by decide +kernel
theorem dX5_arrange_35 : decode cX5_arrange 35 = .ok (.istore 4, 2) := by decide +kernel
theorem dX5_arrange_37 : decode cX5_arrange 37 = .ok (.iconst 0, 1) := by decide +kernel
theorem dX5_arrange_38 : decode cX5_arrange 38 = .ok (.istore 5, 2) := by decide +kernel
theorem dX5_arrange_40 : decode cX5_arrange 40 = .ok (.iload 5, 2) := by decide +kernel
theorem dX5_arrange_42 : decode cX5_arrange 42 = .ok (.aload_n 0, 1) := by decide +kernel
theorem dX5_arrange_43 : decode cX5_arrange 43 = .ok (.getfield 164, 3) := by decide +kernel
theorem dX5_arrange_46 : decode cX5_arrange 46 = .ok (.if_icmp .ge 77, 3) := by decide +kernel
theorem dX5_arrange_49 : decode cX5_arrange 49 = .ok (.iload_n 3, 1) := by decide +kernel
theorem dX5_arrange_50 : decode cX5_arrange 50 = .ok (.aload_n 0, 1) := by decide +kernel
theorem dX5_arrange_51 : decode cX5_arrange 51 = .ok (.getfield 164, 3) := by decide +kernel
theorem dX5_arrange_54 : decode cX5_arrange 54 = .ok (.if_icmp .lt 9, 3) := by decide +kernel
theorem dX5_arrange_57 : decode cX5_arrange 57 = .ok (.iload_n 3, 1) := by decide +kernel
theorem dX5_arrange_58 : decode cX5_arrange 58 = .ok (.bipush 7, 2) := by decide +kernel
theorem dX5_arrange_60 : decode cX5_arrange 60 = .ok (.if_icmp .ne 63, 3) := by decide +kernel
theorem dX5_arrange_63 : decode cX5_arrange 63 = .ok (.iload_n 2, 1) := by decide +kernel
theorem dX5_arrange_64 : decode cX5_arrange 64 = .ok (.iload 5, 2) := by decide +kernel
theorem dX5_arrange_66 : decode cX5_arrange 66 = .ok (.ishr, 1) := by decide +kernel
theorem dX5_arrange_67 : decode cX5_arrange 67 = .ok (.iconst 1, 1) := by decide +kernel
theorem dX5_arrange_68 : decode cX5_arrange 68 = .ok (.iand, 1) := by decide +kernel
theorem dX5_arrange_69 : decode cX5_arrange 69 = .ok (.iconst 1, 1) := by decide +kernel
theorem dX5_arrange_70 : decode cX5_arrange 70 = .ok (.if_icmp .ne 47, 3) := by decide +kernel
theorem dX5_arrange_73 : decode cX5_arrange 73 = .ok (.aload_n 0, 1) := by decide +kernel
theorem dX5_arrange_74 : decode cX5_arrange 74 = .ok (.iload_n 1, 1) := by decide +kernel
theorem dX5_arrange_75 : decode cX5_arrange 75 = .ok (.iload_n 3, 1) := by decide +kernel
theorem dX5_arrange_76 : decode cX5_arrange 76 = .ok (.iload 5, 2) := by decide +kernel
theorem dX5_arrange_78 : decode cX5_arrange 78 = .ok (.invokevirtual 172, 3) := by decide +kernel
theorem dX5_arrange_81 : decode cX5_arrange 81 = .ok (.aload_n 0, 1) := by decide +kernel
theorem dX5_arrange_82 : decode cX5_arrange 82 = .ok (.getfield 68, 3) := by decide +kernel
theorem dX5_arrange_85 : decode cX5_arrange 85 = .ok (.bipush 8, 2) := by decide +kernel
theorem dX5_arrange_87 : decode cX5_arrange 87 = .ok (.iload_n 2, 1) := by decide +kernel
theorem dX5_arrange_88 : decode cX5_arrange 88 = .ok (.iconst 1, 1) := by decide +kernel
theorem dX5_arrange_89 : decode cX5_arrange 89 = .ok (.iload 5, 2) := by decide +kernel
theorem dX5_arrange_91 : decode cX5_arrange 91 = .ok (.ishl, 1) := by decide +kernel
theorem dX5_arrange_92 : decode cX5_arrange 92 = .ok (.ixor, 1) := by decide +kernel
theorem dX5_arrange_93 : decode cX5_arrange 93 = .ok (.imul, 1) := by decide +kernel
theorem dX5_arrange_94 : decode cX5_arrange 94 = .ok (.iload 5, 2) := by decide +kernel
theorem dX5_arrange_96 : decode cX5_arrange 96 = .ok (.iadd, 1) := by decide +kernel
theorem dX5_arrange_97 : decode cX5_arrange 97 = .ok (.iaload, 1) := by decide +kernel
theorem dX5_arrange_98 : decode cX5_arrange 98 = .ok (.iadd, 1) := by decide +kernel
theorem dX5_arrange_99 : decode cX5_arrange 99 = .ok (.istore 6, 2) := by decide +kernel
theorem dX5_arrange_101 : decode cX5_arrange 101 = .ok (.iload 6, 2) := by decide +kernel
theorem dX5_arrange_103 : decode cX5_arrange 103 = .ok (.iload 4, 2) := by decide +kernel
theorem dX5_arrange_105 : decode cX5_arrange 105 = .ok (.if_icmp .ge 8, 3) := by decide +kernel
theorem dX5_arrange_108 : decode cX5_arrange 108 = .ok (.iload 6, 2) := by decide +kernel
theorem dX5_arrange_110 : decode cX5_arrange 110 = .ok (.goto 5, 3) := by decide +kernel
theorem dX5_arrange_113 : decode cX5_arrange 113 = .ok (.iload 4, 2) := by decide +kernel
theorem dX5_arrange_115 : decode cX5_arrange 115 = .ok (.istore 4, 2) := by decide +kernel
theorem dX5_arrange_117 : decode cX5_arrange 117 = .ok (.iinc 5 1, 3) := by decide +kernel
theorem dX5_arrange_120 : decode cX5_arrange 120 = .ok (.goto (-80), 3) := by decide +kernel
theorem dX5_arrange_123 : decode cX5_arrange 123 = .ok (.aload_n 0, 1) := by decide +kernel
theorem dX5_arrange_124 : decode cX5_arrange 124 = .ok (.getfield 68, 3) := by decide +kernel
theorem dX5_arrange_127 : decode cX5_arrange 127 = .ok (.bipush 8, 2) := by decide +kernel
theorem dX5_arrange_129 : decode cX5_arrange 129 = .ok (.iload_n 2, 1) := by decide +kernel
theorem dX5_arrange_130 : decode cX5_arrange 130 = .ok (.imul, 1) := by decide +kernel
theorem dX5_arrange_131 : decode cX5_arrange 131 = .ok (.iload_n 3, 1) := by decide +kernel
theorem dX5_arrange_132 : decode cX5_arrange 132 = .ok (.iadd, 1) := by decide +kernel
theorem dX5_arrange_133 : decode cX5_arrange 133 = .ok (.iload 4, 2) := by decide +kernel
theorem dX5_arrange_135 : decode cX5_arrange 135 = .ok (.iastore, 1) := by decide +kernel
theorem dX5_arrange_136 : decode cX5_arrange 136 = .ok (.iinc 3 1, 3) := by decide +kernel
theorem dX5_arrange_139 : decode cX5_arrange 139 = .ok (.goto (-120), 3) := by decide +kernel
theorem dX5_arrange_142 : decode cX5_arrange 142 = .ok (.iinc 2 1, 3) := by decide +kernel
theorem dX5_arrange_145 : decode cX5_arrange 145 = .ok (.goto (-138), 3) := by decide +kernel
theorem dX5_arrange_148 : decode cX5_arrange 148 = .ok (.iconst 1, 1) := by decide +kernel
theorem dX5_arrange_149 : decode cX5_arrange 149 = .ok (.aload_n 0, 1) := by decide +kernel
theorem dX5_arrange_150 : decode cX5_arrange 150 = .ok (.getfield 164, 3) := by decide +kernel
theorem dX5_arrange_153 : decode cX5_arrange 153 = .ok (.ishl, 1) := by decide +kernel
theorem dX5_arrange_154 : decode cX5_arrange 154 = .ok (.iconst 1, 1) := by decide +kernel
theorem dX5_arrange_155 : decode cX5_arrange 155 = .ok (.isub, 1) := by decide +kernel
theorem dX5_arrange_156 : decode cX5_arrange 156 = .ok (.istore_n 2, 1) := by decide +kernel
theorem dX5_arrange_157 : decode cX5_arrange 157 = .ok (.bipush 7, 2) := by decide +kernel
theorem dX5_arrange_159 : decode cX5_arrange 159 = .ok (.istore_n 3, 1) := by decide +kernel
theorem dX5_arrange_160 : decode cX5_arrange 160 = .ok (.iconst 0, 1) := by decide +kernel
theorem dX5_arrange_161 : decode cX5_arrange 161 = .ok (.istore 4, 2) := by decide +kernel
theorem dX5_arrange_163 : decode cX5_arrange 163 = .ok (.iload 4, 2) := by decide +kernel
theorem dX5_arrange_165 : decode cX5_arrange 165 = .ok (.aload_n 0, 1) := by decide +kernel
theorem dX5_arrange_166 : decode cX5_arrange 166 = .ok (.getfield 164, 3) := by decide +kernel
theorem dX5_arrange_169 : decode cX5_arrange 169 = .ok (.if_icmp .ge 86, 3) := by decide +kernel
theorem dX5_arrange_172 : decode cX5_arrange 172 = .ok (.iconst 0, 1) := by decide +kernel
theorem dX5_arrange_173 : decode cX5_arrange 173 = .ok (.istore 5, 2) := by decide +kernel
theorem dX5_arrange_175 : decode cX5_arrange 175 = .ok (.iload_n 2, 1) := by decide +kernel
theorem dX5_arrange_176 : decode cX5_arrange 176 = .ok (.iload 5, 2) := by decide +kernel
theorem dX5_arrange_178 : decode cX5_arrange 178 = .ok (.ishr, 1) := by decide +kernel
theorem dX5_arrange_179 : decode cX5_arrange 179 = .ok (.iconst 1, 1) := by decide +kernel
theorem dX5_arrange_180 : decode cX5_arrange 180 = .ok (.iand, 1) := by decide +kernel
theorem dX5_arrange_181 : decode cX5_arrange 181 = .ok (.ifCond .eq 43, 3) := by decide +kernel
theorem dX5_arrange_184 : decode cX5_arrange 184 = .ok (.aload_n 0, 1) := by decide +kernel
theorem dX5_arrange_185 : decode cX5_arrange 185 = .ok (.iload_n 1, 1) := by decide +kernel
theorem dX5_arrange_186 : decode cX5_arrange 186 = .ok (.iload_n 3, 1) := by decide +kernel
theorem dX5_arrange_187 : decode cX5_arrange 187 = .ok (.iload 5, 2) := by decide +kernel
theorem dX5_arrange_189 : decode cX5_arrange 189 = .ok (.invokevirtual 172, 3) := by decide +kernel
theorem dX5_arrange_192 : decode cX5_arrange 192 = .ok (.aload_n 0, 1) := by decide +kernel
theorem dX5_arrange_193 : decode cX5_arrange 193 = .ok (.getfield 68, 3) := by decide +kernel
theorem dX5_arrange_196 : decode cX5_arrange 196 = .ok (.bipush 8, 2) := by decide +kernel
theorem dX5_arrange_198 : decode cX5_arrange 198 = .ok (.iload_n 2, 1) := by decide +kernel
theorem dX5_arrange_199 : decode cX5_arrange 199 = .ok (.iconst 1, 1) := by decide +kernel
theorem dX5_arrange_200 : decode cX5_arrange 200 = .ok (.iload 5, 2) := by decide +kernel
theorem dX5_arrange_202 : decode cX5_arrange 202 = .ok (.ishl, 1) := by decide +kernel
theorem dX5_arrange_203 : decode cX5_arrange 203 = .ok (.ixor, 1) := by decide +kernel
theorem dX5_arrange_204 : decode cX5_arrange 204 = .ok (.imul, 1) := by decide +kernel
theorem dX5_arrange_205 : decode cX5_arrange 205 = .ok (.iload 5, 2) := by decide +kernel
theorem dX5_arrange_207 : decode cX5_arrange 207 = .ok (.iadd, 1) := by decide +kernel
theorem dX5_arrange_208 : decode cX5_arrange 208 = .ok (.iaload, 1) := by decide +kernel
theorem dX5_arrange_209 : decode cX5_arrange 209 = .ok (.iadd, 1) := by decide +kernel
theorem dX5_arrange_210 : decode cX5_arrange 210 = .ok (.aload_n 0, 1) := by decide +kernel
theorem dX5_arrange_211 : decode cX5_arrange 211 = .ok (.getfield 68, 3) := by decide +kernel
theorem dX5_arrange_214 : decode cX5_arrange 214 = .ok (.bipush 8, 2) := by decide +kernel
theorem dX5_arrange_216 : decode cX5_arrange 216 = .ok (.iload_n 2, 1) := by decide +kernel
theorem dX5_arrange_217 : decode cX5_arrange 217 = .ok (.imul, 1) := by decide +kernel
theorem dX5_arrange_218 : decode cX5_arrange 218 = .ok (.iload_n 3, 1) := by decide +kernel
theorem dX5_arrange_219 : decode cX5_arrange 219 = .ok (.iadd, 1) := by decide +kernel
theorem dX5_arrange_220 : decode cX5_arrange 220 = .ok (.iaload, 1) := by decide +kernel
theorem dX5_arrange_221 : decode cX5_arrange 221 = .ok (.if_icmp .eq 9, 3) := by decide +kernel
theorem dX5_arrange_224 : decode cX5_arrange 224 = .ok (.iinc 5 1, 3) := by decide +kernel
theorem dX5_arrange_227 : decode cX5_arrange 227 = .ok (.goto (-52), 3) := by decide +kernel
theorem dX5_arrange_230 : decode cX5_arrange 230 = .ok (.aload_n 0, 1) := by decide +kernel
theorem dX5_arrange_231 : decode cX5_arrange 231 = .ok (.getfield 65, 3) := by decide +kernel
theorem dX5_arrange_234 : decode cX5_arrange 234 = .ok (.iload 4, 2) := by decide +kernel
theorem dX5_arrange_236 : decode cX5_arrange 236 = .ok (.iload 5, 2) := by decide +kernel
theorem dX5_arrange_238 : decode cX5_arrange 238 = .ok (.iastore, 1) := by decide +kernel
theorem dX5_arrange_239 : decode cX5_arrange 239 = .ok (.iload_n 2, 1) := by decide +kernel
theorem dX5_arrange_240 : decode cX5_arrange 240 = .ok (.iconst 1, 1) := by decide +kernel
theorem dX5_arrange_241 : decode cX5_arrange 241 = .ok (.iload 5, 2) := by decide +kernel
theorem dX5_arrange_243 : decode cX5_arrange 243 = .ok (.ishl, 1) := by decide +kernel
theorem dX5_arrange_244 : decode cX5_arrange 244 = .ok (.ixor, 1) := by decide +kernel
theorem dX5_arrange_245 : decode cX5_arrange 245 = .ok (.istore_n 2, 1) := by decide +kernel
theorem dX5_arrange_246 : decode cX5_arrange 246 = .ok (.iload 5, 2) := by decide +kernel
theorem dX5_arrange_248 : decode cX5_arrange 248 = .ok (.istore_n 3, 1) := by decide +kernel
theorem dX5_arrange_249 : decode cX5_arrange 249 = .ok (.iinc 4 1, 3) := by decide +kernel
theorem dX5_arrange_252 : decode cX5_arrange 252 = .ok (.goto (-89), 3) := by decide +kernel
theorem dX5_arrange_255 : decode cX5_arrange 255 = .ok (.aload_n 0, 1) := by decide +kernel
theorem dX5_arrange_256 : decode cX5_arrange 256 = .ok (.getfield 68, 3) := by decide +kernel
theorem dX5_arrange_259 : decode cX5_arrange 259 = .ok (.bipush 8, 2) := by decide +kernel
theorem dX5_arrange_261 : decode cX5_arrange 261 = .ok (.iconst 1, 1) := by decide +kernel
theorem dX5_arrange_262 : decode cX5_arrange 262 = .ok (.aload_n 0, 1) := by decide +kernel
theorem dX5_arrange_263 : decode cX5_arrange 263 = .ok (.getfield 164, 3) := by decide +kernel
theorem dX5_arrange_266 : decode cX5_arrange 266 = .ok (.ishl, 1) := by decide +kernel
theorem dX5_arrange_267 : decode cX5_arrange 267 = .ok (.iconst 1, 1) := by decide +kernel
theorem dX5_arrange_268 : decode cX5_arrange 268 = .ok (.isub, 1) := by decide +kernel
theorem dX5_arrange_269 : decode cX5_arrange 269 = .ok (.imul, 1) := by decide +kernel
theorem dX5_arrange_270 : decode cX5_arrange 270 = .ok (.bipush 7, 2) := by decide +kernel
theorem dX5_arrange_272 : decode cX5_arrange 272 = .ok (.iadd, 1) := by decide +kernel
theorem dX5_arrange_273 : decode cX5_arrange 273 = .ok (.iaload, 1) := by decide +kernel
theorem dX5_arrange_274 : decode cX5_arrange 274 = .ok (.ireturn, 1) := by decide +kernel
set_option maxRecDepth 20000 in
theorem ggX5_bestTime_X5_isDrive : GoodIn wsX5_bestTime wsX5_isDrive := goodIn_r _ [5, 6, 7, 8, 4, 9, 74, 75, 76, 77, 78, 79, 80, 81, 82, 83, 84, 85, 86, 87, 88, 89, 90, 91, 92, 93, 94, 95, 96, 97, 98, 99] (by decide +kernel) (by decide +kernel)
set_option maxRecDepth 20000 in
theorem gX5_bestTime_X5_isDrive : GoodIn wsX5_bestTime (wsV RX5 92 RX5 yX5_isDrive wsX5_isDrive) := goodIn_app (goodIn_of _ (by decide +kernel)) ggX5_bestTime_X5_isDrive
set_option maxRecDepth 20000 in
theorem ggX5_bestTime_X5_hasTape : GoodIn wsX5_bestTime wsX5_hasTape := goodIn_r _ [13, 14, 1, 2, 3, 4, 5, 6, 7, 8, 9, 74, 75, 76, 77, 78, 79, 80, 81, 82, 83, 84, 85, 86, 87, 88, 89, 90, 91, 92, 93, 94, 95, 96, 97, 98, 99] (by decide +kernel) (by decide +kernel)
set_option maxRecDepth 20000 in
theorem gX5_bestTime_X5_hasTape : GoodIn wsX5_bestTime (wsV RX5 124 RX5 yX5_hasTape wsX5_hasTape) := goodIn_app (goodIn_of _ (by decide +kernel)) ggX5_bestTime_X5_hasTape
set_option maxRecDepth 20000 in
theorem ggX5_bestTime_X5_mayBoth : GoodIn wsX5_bestTime wsX5_mayBoth := goodIn_r _ [18, 19, 74, 75, 76, 77, 78, 79, 80, 81, 82, 83, 84, 85, 86, 87, 88, 89, 90, 91, 92, 93, 94, 95, 96, 97, 98, 99] (by decide +kernel) (by decide +kernel)
set_option maxRecDepth 20000 in
theorem gX5_bestTime_X5_mayBoth : GoodIn wsX5_bestTime (wsV RX5 95 RX5 yX5_mayBoth wsX5_mayBoth) := goodIn_app (goodIn_of _ (by decide +kernel)) ggX5_bestTime_X5_mayBoth
set_option maxRecDepth 20000 in
theorem ggX5_bestTime_X5_arrange : GoodIn wsX5_bestTime wsX5_arrange := goodIn_r _ [23, 24, 25, 26, 27, 28, 29, 30, 4, 31, 32, 14, 33, 34, 35, 36, 37, 38, 39, 40, 41, 42, 43, 44, 45, 46, 47, 48, 49, 50, 51, 52, 53, 54, 55, 56, 57, 58, 59, 60, 61, 62, 63, 64, 65, 66, 67, 68, 69, 70, 71, 72, 73, 74, 75, 76, 77, 78, 79, 80, 81, 82, 83, 84, 85, 86, 87, 88, 89, 90, 91, 92, 93, 94, 95, 96, 97, 98, 99] (by decide +kernel) (by decide +kernel)
set_option maxRecDepth 20000 in
theorem gX5_bestTime_X5_arrange : GoodIn wsX5_bestTime (wsV RX5 175 RX5 yX5_arrange wsX5_arrange) := goodIn_app (goodIn_of _ (by decide +kernel)) ggX5_bestTime_X5_arrange
theorem dX5_bestTime_0 : decode cX5_bestTime 0 = .ok (.aload_n 0, 1) := by decide +kernel
theorem dX5_bestTime_1 : decode cX5_bestTime 1 = .ok (.aload_n 0, 1) := by decide +kernel
theorem dX5_bestTime_2 : decode cX5_bestTime 2 = .ok (.iload_n 1, 1) := by decide +kernel
theorem dX5_bestTime_3 : decode cX5_bestTime 3 = .ok (.invokevirtual 92, 3) := by decide +kernel
theorem dX5_bestTime_6 : decode cX5_bestTime 6 = .ok (.aload_n 0, 1) := by decide +kernel
theorem dX5_bestTime_7 : decode cX5_bestTime 7 = .ok (.iload_n 1, 1) := by decide +kernel
theorem dX5_bestTime_8 : decode cX5_bestTime 8 = .ok (.invokevirtual 124, 3) := by decide +kernel
theorem dX5_bestTime_11 : decode cX5_bestTime 11 = .ok (.invokevirtual 95, 3) := by decide +kernel
theorem dX5_bestTime_14 : decode cX5_bestTime 14 = .ok (.ifCond .eq 11, 3) := by decide +kernel
theorem dX5_bestTime_17 : decode cX5_bestTime 17 = .ok (.aload_n 0, 1) := by decide +kernel
theorem dX5_bestTime_18 : decode cX5_bestTime 18 = .ok (.iload_n 1, 1) := by decide +kernel
theorem dX5_bestTime_19 : decode cX5_bestTime 19 = .ok (.invokevirtual 175, 3) := by decide +kernel
theorem dX5_bestTime_22 : decode cX5_bestTime 22 = .ok (.goto 4, 3) := by decide +kernel
theorem dX5_bestTime_25 : decode cX5_bestTime 25 = .ok (.iconst 0, 1) := by decide +kernel
theorem dX5_bestTime_26 : decode cX5_bestTime 26 = .ok (.ireturn, 1) := by decide +kernel
set_option maxRecDepth 20000 in
theorem ggX5_bestJob_X5_isDrive : GoodIn wsX5_bestJob wsX5_isDrive := goodIn_r _ [8, 9, 10, 11, 7, 12, 78, 79, 80, 81, 82, 83, 84, 85, 86, 87, 88, 89, 90, 91, 92, 93, 94, 95, 96, 97, 98, 99, 100, 101, 102, 103] (by decide +kernel) (by decide +kernel)
set_option maxRecDepth 20000 in
theorem gX5_bestJob_X5_isDrive : GoodIn wsX5_bestJob (wsV RX5 92 RX5 yX5_isDrive wsX5_isDrive) := goodIn_app (goodIn_of _ (by decide +kernel)) ggX5_bestJob_X5_isDrive
set_option maxRecDepth 20000 in
theorem ggX5_bestJob_X5_hasTape : GoodIn wsX5_bestJob wsX5_hasTape := goodIn_r _ [16, 17, 4, 5, 6, 7, 8, 9, 10, 11, 12, 78, 79, 80, 81, 82, 83, 84, 85, 86, 87, 88, 89, 90, 91, 92, 93, 94, 95, 96, 97, 98, 99, 100, 101, 102, 103] (by decide +kernel) (by decide +kernel)
set_option maxRecDepth 20000 in
theorem gX5_bestJob_X5_hasTape : GoodIn wsX5_bestJob (wsV RX5 124 RX5 yX5_hasTape wsX5_hasTape) := goodIn_app (goodIn_of _ (by decide +kernel)) ggX5_bestJob_X5_hasTape
set_option maxRecDepth 20000 in
theorem ggX5_bestJob_X5_mayBoth : GoodIn wsX5_bestJob wsX5_mayBoth := goodIn_r _ [21, 22, 78, 79, 80, 81, 82, 83, 84, 85, 86, 87, 88, 89, 90, 91, 92, 93, 94, 95, 96, 97, 98, 99, 100, 101, 102, 103] (by decide +kernel) (by decide +kernel)
set_option maxRecDepth 20000 in
theorem gX5_bestJob_X5_mayBoth : GoodIn wsX5_bestJob (wsV RX5 95 RX5 yX5_mayBoth wsX5_mayBoth) := goodIn_app (goodIn_of _ (by decide +kernel)) ggX5_bestJob_X5_mayBoth
set_option maxRecDepth 20000 in
theorem ggX5_bestJob_X5_arrange : GoodIn wsX5_bestJob wsX5_arrange := goodIn_r _ [26, 1, 27, 28, 3, 29, 30, 31, 7, 32, 33, 17, 2, 34, 35, 36, 37, 38, 39, 40, 41, 42, 43, 44, 45, 46, 47, 48, 49, 50, 51, 52, 53, 54, 55, 56, 57, 58, 59, 60, 61, 62, 63, 64, 65, 66, 67, 68, 69, 70, 71, 72, 73, 78, 79, 80, 81, 82, 83, 84, 85, 86, 87, 88, 89, 90, 91, 92, 93, 94, 95, 96, 97, 98, 99, 100, 101, 102, 103] (by decide +kernel) (by decide +kernel)
set_option maxRecDepth 20000 in
theorem gX5_bestJob_X5_arrange : GoodIn wsX5_bestJob (wsV RX5 175 RX5 yX5_arrange wsX5_arrange) := goodIn_app (goodIn_of _ (by decide +kernel)) ggX5_bestJob_X5_arrange
set_option maxRecDepth 20000 in
theorem ggX5_bestJob_X5_isIn : GoodIn wsX5_bestJob wsX5_isIn := goodIn_r _ [12] (by decide +kernel) (by decide +kernel)
set_option maxRecDepth 20000 in
theorem gX5_bestJob_X5_isIn : GoodIn wsX5_bestJob (va_wsS RX5 81 yX5_isIn wsX5_isIn) := goodIn_app (goodIn_of _ (by decide +kernel)) ggX5_bestJob_X5_isIn
set_option maxRecDepth 20000 in
theorem ggX5_bestJob_X5_may : GoodIn wsX5_bestJob wsX5_may := goodIn_r _ [77, 22, 78, 79, 80, 81, 82, 83, 84, 85, 86, 87, 88, 89, 90, 91, 92, 93, 94, 95, 96, 97, 98, 99, 100, 101, 102, 103] (by decide +kernel) (by decide +kernel)
set_option maxRecDepth 20000 in
theorem gX5_bestJob_X5_may : GoodIn wsX5_bestJob (wsV RX5 102 RX5 yX5_may wsX5_may) := goodIn_app (goodIn_of _ (by decide +kernel)) ggX5_bestJob_X5_may
theorem dX5_bestJob_0 : decode cX5_bestJob 0 = .ok (.aload_n 0, 1) := by decide +kernel
theorem dX5_bestJob_1 : decode cX5_bestJob 1 = .ok (.aload_n 0, 1) := by decide +kernel
theorem dX5_bestJob_2 : decode cX5_bestJob 2 = .ok (.iload_n 1, 1) := by decide +kernel
theorem dX5_bestJob_3 : decode cX5_bestJob 3 = .ok (.invokevirtual 92, 3) := by decide +kernel
theorem dX5_bestJob_6 : decode cX5_bestJob 6 = .ok (.aload_n 0, 1) := by decide +kernel
theorem dX5_bestJob_7 : decode cX5_bestJob 7 = .ok (.iload_n 1, 1) := by decide +kernel
theorem dX5_bestJob_8 : decode cX5_bestJob 8 = .ok (.invokevirtual 124, 3) := by decide +kernel
theorem dX5_bestJob_11 : decode cX5_bestJob 11 = .ok (.invokevirtual 95, 3) := by decide +kernel
theorem dX5_bestJob_14 : decode cX5_bestJob 14 = .ok (.ifCond .ne 5, 3) := by decide +kernel
theorem dX5_bestJob_17 : decode cX5_bestJob 17 = .ok (.iconst 0, 1) := by decide +kernel
theorem dX5_bestJob_18 : decode cX5_bestJob 18 = .ok (.ireturn, 1) := by decide +kernel
theorem dX5_bestJob_19 : decode cX5_bestJob 19 = .ok (.aload_n 0, 1) := by decide +kernel
theorem dX5_bestJob_20 : decode cX5_bestJob 20 = .ok (.iload_n 1, 1) := by decide +kernel
theorem dX5_bestJob_21 : decode cX5_bestJob 21 = .ok (.invokevirtual 175, 3) := by decide +kernel
theorem dX5_bestJob_24 : decode cX5_bestJob 24 = .ok (.pop, 1) := by decide +kernel
theorem dX5_bestJob_25 : decode cX5_bestJob 25 = .ok (.aload_n 0, 1) := by decide +kernel
theorem dX5_bestJob_26 : decode cX5_bestJob 26 = .ok (.iload_n 2, 1) := by decide +kernel
theorem dX5_bestJob_27 : decode cX5_bestJob 27 = .ok (.iconst 0, 1) := by decide +kernel
theorem dX5_bestJob_28 : decode cX5_bestJob 28 = .ok (.aload_n 0, 1) := by decide +kernel
theorem dX5_bestJob_29 : decode cX5_bestJob 29 = .ok (.getfield 164, 3) := by decide +kernel
theorem dX5_bestJob_32 : decode cX5_bestJob 32 = .ok (.iconst 1, 1) := by decide +kernel
theorem dX5_bestJob_33 : decode cX5_bestJob 33 = .ok (.isub, 1) := by decide +kernel
theorem dX5_bestJob_34 : decode cX5_bestJob 34 = .ok (.invokestatic 81, 3) := by decide +kernel
theorem dX5_bestJob_37 : decode cX5_bestJob 37 = .ok (.invokevirtual 102, 3) := by decide +kernel
theorem dX5_bestJob_40 : decode cX5_bestJob 40 = .ok (.ifCond .eq 17, 3) := by decide +kernel
theorem dX5_bestJob_43 : decode cX5_bestJob 43 = .ok (.aload_n 0, 1) := by decide +kernel
theorem dX5_bestJob_44 : decode cX5_bestJob 44 = .ok (.getfield 62, 3) := by decide +kernel
theorem dX5_bestJob_47 : decode cX5_bestJob 47 = .ok (.aload_n 0, 1) := by decide +kernel
theorem dX5_bestJob_48 : decode cX5_bestJob 48 = .ok (.getfield 65, 3) := by decide +kernel
theorem dX5_bestJob_51 : decode cX5_bestJob 51 = .ok (.iload_n 2, 1) := by decide +kernel
theorem dX5_bestJob_52 : decode cX5_bestJob 52 = .ok (.iaload, 1) := by decide +kernel
theorem dX5_bestJob_53 : decode cX5_bestJob 53 = .ok (.iaload, 1) := by decide +kernel
theorem dX5_bestJob_54 : decode cX5_bestJob 54 = .ok (.goto 4, 3) := by decide +kernel
theorem dX5_bestJob_57 : decode cX5_bestJob 57 = .ok (.iconst 0, 1) := by decide +kernel
theorem dX5_bestJob_58 : decode cX5_bestJob 58 = .ok (.ireturn, 1) := by decide +kernel
set_option maxRecDepth 20000 in
theorem ggX5_timeWith_X5_timeOf : GoodIn wsX5_timeWith wsX5_timeOf := goodIn_r _ [6, 7, 8, 9, 10, 5, 11, 12, 13, 14, 15, 16, 17, 18, 19, 20, 21, 22, 23, 24, 25, 26, 27, 28, 29, 30, 31, 32, 33, 34, 35, 36, 37, 38, 39, 40, 41, 42, 43, 44, 45, 46, 47, 48, 49, 50, 51, 52, 53, 54, 55, 56, 57, 58, 59, 60, 61, 62, 63, 64, 65] (by decide +kernel) (by decide +kernel)
set_option maxRecDepth 20000 in
theorem gX5_timeWith_X5_timeOf : GoodIn wsX5_timeWith (wsV RX5 172 RX5 yX5_timeOf wsX5_timeOf) := goodIn_app (goodIn_of _ (by decide +kernel)) ggX5_timeWith_X5_timeOf
theorem dX5_timeWith_0 : decode cX5_timeWith 0 = .ok (.iconst 0, 1) := by decide +kernel
theorem dX5_timeWith_1 : decode cX5_timeWith 1 = .ok (.istore 5, 2) := by decide +kernel
theorem dX5_timeWith_3 : decode cX5_timeWith 3 = .ok (.bipush 7, 2) := by decide +kernel
theorem dX5_timeWith_5 : decode cX5_timeWith 5 = .ok (.istore 6, 2) := by decide +kernel
theorem dX5_timeWith_7 : decode cX5_timeWith 7 = .ok (.iconst 0, 1) := by decide +kernel
theorem dX5_timeWith_8 : decode cX5_timeWith 8 = .ok (.istore 7, 2) := by decide +kernel
theorem dX5_timeWith_10 : decode cX5_timeWith 10 = .ok (.iload 7, 2) := by decide +kernel
theorem dX5_timeWith_12 : decode cX5_timeWith 12 = .ok (.iload_n 2, 1) := by decide +kernel
theorem dX5_timeWith_13 : decode cX5_timeWith 13 = .ok (.if_icmp .gt 66, 3) := by decide +kernel
theorem dX5_timeWith_16 : decode cX5_timeWith 16 = .ok (.iload 7, 2) := by decide +kernel
theorem dX5_timeWith_18 : decode cX5_timeWith 18 = .ok (.iload 4, 2) := by decide +kernel
theorem dX5_timeWith_20 : decode cX5_timeWith 20 = .ok (.if_icmp .ge 13, 3) := by decide +kernel
theorem dX5_timeWith_23 : decode cX5_timeWith 23 = .ok (.aload_n 0, 1) := by decide +kernel
theorem dX5_timeWith_24 : decode cX5_timeWith 24 = .ok (.getfield 71, 3) := by decide +kernel
theorem dX5_timeWith_27 : decode cX5_timeWith 27 = .ok (.iload 7, 2) := by decide +kernel
theorem dX5_timeWith_29 : decode cX5_timeWith 29 = .ok (.iaload, 1) := by decide +kernel
theorem dX5_timeWith_30 : decode cX5_timeWith 30 = .ok (.goto 23, 3) := by decide +kernel
theorem dX5_timeWith_33 : decode cX5_timeWith 33 = .ok (.iload 7, 2) := by decide +kernel
theorem dX5_timeWith_35 : decode cX5_timeWith 35 = .ok (.iload 4, 2) := by decide +kernel
theorem dX5_timeWith_37 : decode cX5_timeWith 37 = .ok (.if_icmp .ne 7, 3) := by decide +kernel
theorem dX5_timeWith_40 : decode cX5_timeWith 40 = .ok (.iload_n 3, 1) := by decide +kernel
theorem dX5_timeWith_41 : decode cX5_timeWith 41 = .ok (.goto 12, 3) := by decide +kernel
theorem dX5_timeWith_44 : decode cX5_timeWith 44 = .ok (.aload_n 0, 1) := by decide +kernel
theorem dX5_timeWith_45 : decode cX5_timeWith 45 = .ok (.getfield 71, 3) := by decide +kernel
theorem dX5_timeWith_48 : decode cX5_timeWith 48 = .ok (.iload 7, 2) := by decide +kernel
theorem dX5_timeWith_50 : decode cX5_timeWith 50 = .ok (.iconst 1, 1) := by decide +kernel
theorem dX5_timeWith_51 : decode cX5_timeWith 51 = .ok (.isub, 1) := by decide +kernel
theorem dX5_timeWith_52 : decode cX5_timeWith 52 = .ok (.iaload, 1) := by decide +kernel
theorem dX5_timeWith_53 : decode cX5_timeWith 53 = .ok (.istore 8, 2) := by decide +kernel
theorem dX5_timeWith_55 : decode cX5_timeWith 55 = .ok (.iload 5, 2) := by decide +kernel
theorem dX5_timeWith_57 : decode cX5_timeWith 57 = .ok (.aload_n 0, 1) := by decide +kernel
theorem dX5_timeWith_58 : decode cX5_timeWith 58 = .ok (.iload_n 1, 1) := by decide +kernel
theorem dX5_timeWith_59 : decode cX5_timeWith 59 = .ok (.iload 6, 2) := by decide +kernel
theorem dX5_timeWith_61 : decode cX5_timeWith 61 = .ok (.iload 8, 2) := by decide +kernel
theorem dX5_timeWith_63 : decode cX5_timeWith 63 = .ok (.invokevirtual 172, 3) := by decide +kernel
theorem dX5_timeWith_66 : decode cX5_timeWith 66 = .ok (.iadd, 1) := by decide +kernel
theorem dX5_timeWith_67 : decode cX5_timeWith 67 = .ok (.istore 5, 2) := by decide +kernel
theorem dX5_timeWith_69 : decode cX5_timeWith 69 = .ok (.iload 8, 2) := by decide +kernel
theorem dX5_timeWith_71 : decode cX5_timeWith 71 = .ok (.istore 6, 2) := by decide +kernel
theorem dX5_timeWith_73 : decode cX5_timeWith 73 = .ok (.iinc 7 1, 3) := by decide +kernel
theorem dX5_timeWith_76 : decode cX5_timeWith 76 = .ok (.goto (-66), 3) := by decide +kernel
theorem dX5_timeWith_79 : decode cX5_timeWith 79 = .ok (.iload 5, 2) := by decide +kernel
theorem dX5_timeWith_81 : decode cX5_timeWith 81 = .ok (.ireturn, 1) := by decide +kernel
set_option maxRecDepth 20000 in
theorem ggX5_insertedTime_X5_isDrive : GoodIn wsX5_insertedTime wsX5_isDrive := goodIn_r _ [7, 8, 9, 10, 6, 11, 72, 73, 74, 75, 76, 77, 78, 79, 80, 81, 82, 83, 84, 85, 86, 87, 88, 89, 90, 91, 92, 93, 94, 95, 96, 97] (by decide +kernel) (by decide +kernel)
set_option maxRecDepth 20000 in
theorem gX5_insertedTime_X5_isDrive : GoodIn wsX5_insertedTime (wsV RX5 92 RX5 yX5_isDrive wsX5_isDrive) := goodIn_app (goodIn_of _ (by decide +kernel)) ggX5_insertedTime_X5_isDrive
set_option maxRecDepth 20000 in
theorem ggX5_insertedTime_X5_hasTape : GoodIn wsX5_insertedTime wsX5_hasTape := goodIn_r _ [15, 16, 3, 4, 5, 6, 7, 8, 9, 10, 11, 72, 73, 74, 75, 76, 77, 78, 79, 80, 81, 82, 83, 84, 85, 86, 87, 88, 89, 90, 91, 92, 93, 94, 95, 96, 97] (by decide +kernel) (by decide +kernel)
set_option maxRecDepth 20000 in
theorem gX5_insertedTime_X5_hasTape : GoodIn wsX5_insertedTime (wsV RX5 124 RX5 yX5_hasTape wsX5_hasTape) := goodIn_app (goodIn_of _ (by decide +kernel)) ggX5_insertedTime_X5_hasTape
set_option maxRecDepth 20000 in
theorem ggX5_insertedTime_X5_mayBoth : GoodIn wsX5_insertedTime wsX5_mayBoth := goodIn_r _ [20, 21, 72, 73, 74, 75, 76, 77, 78, 79, 80, 81, 82, 83, 84, 85, 86, 87, 88, 89, 90, 91, 92, 93, 94, 95, 96, 97] (by decide +kernel) (by decide +kernel)
set_option maxRecDepth 20000 in
theorem gX5_insertedTime_X5_mayBoth : GoodIn wsX5_insertedTime (wsV RX5 95 RX5 yX5_mayBoth wsX5_mayBoth) := goodIn_app (goodIn_of _ (by decide +kernel)) ggX5_insertedTime_X5_mayBoth
set_option maxRecDepth 20000 in
theorem ggX5_insertedTime_X5_listJobs : GoodIn wsX5_insertedTime wsX5_listJobs := goodIn_r _ [25, 1, 26, 16, 27, 28, 29, 30, 6, 31, 32, 33, 72, 73, 74, 75, 76, 77, 78, 79, 80, 81, 82, 83, 84, 85, 86, 87, 88, 89, 90, 91, 92, 93, 94, 95, 96, 97] (by decide +kernel) (by decide +kernel)
set_option maxRecDepth 20000 in
theorem gX5_insertedTime_X5_listJobs : GoodIn wsX5_insertedTime (wsV RX5 167 RX5 yX5_listJobs wsX5_listJobs) := goodIn_app (goodIn_of _ (by decide +kernel)) ggX5_insertedTime_X5_listJobs
set_option maxRecDepth 20000 in
theorem ggX5_insertedTime_X5_timeWith : GoodIn wsX5_insertedTime wsX5_timeWith := goodIn_r _ [37, 2, 38, 39, 40, 6, 41, 42, 43, 44, 45, 46, 47, 33, 27, 48, 49, 50, 51, 52, 53, 54, 55, 56, 57, 16, 58, 59, 60, 61, 62, 63, 64, 65, 66, 67, 68, 69, 70, 71, 72, 73, 74, 75, 76, 77, 78, 79, 80, 81, 82, 83, 84, 85, 86, 87, 88, 89, 90, 91, 92, 93, 94, 95, 96, 97] (by decide +kernel) (by decide +kernel)
set_option maxRecDepth 20000 in
theorem gX5_insertedTime_X5_timeWith : GoodIn wsX5_insertedTime (wsV RX5 178 RX5 yX5_timeWith wsX5_timeWith) := goodIn_app (goodIn_of _ (by decide +kernel)) ggX5_insertedTime_X5_timeWith
theorem dX5_insertedTime_0 : decode cX5_insertedTime 0 = .ok (.aload_n 0, 1) := by decide +kernel
theorem dX5_insertedTime_1 : decode cX5_insertedTime 1 = .ok (.aload_n 0, 1) := by decide +kernel
theorem dX5_insertedTime_2 : decode cX5_insertedTime 2 = .ok (.iload_n 1, 1) := by decide +kernel
theorem dX5_insertedTime_3 : decode cX5_insertedTime 3 = .ok (.invokevirtual 92, 3) := by decide +kernel
theorem dX5_insertedTime_6 : decode cX5_insertedTime 6 = .ok (.aload_n 0, 1) := by decide +kernel
theorem dX5_insertedTime_7 : decode cX5_insertedTime 7 = .ok (.iload_n 1, 1) := by decide +kernel
theorem dX5_insertedTime_8 : decode cX5_insertedTime 8 = .ok (.invokevirtual 124, 3) := by decide +kernel
theorem dX5_insertedTime_11 : decode cX5_insertedTime 11 = .ok (.invokevirtual 95, 3) := by decide +kernel
theorem dX5_insertedTime_14 : decode cX5_insertedTime 14 = .ok (.ifCond .ne 5, 3) := by decide +kernel
theorem dX5_insertedTime_17 : decode cX5_insertedTime 17 = .ok (.iconst 0, 1) := by decide +kernel
theorem dX5_insertedTime_18 : decode cX5_insertedTime 18 = .ok (.ireturn, 1) := by decide +kernel
theorem dX5_insertedTime_19 : decode cX5_insertedTime 19 = .ok (.aload_n 0, 1) := by decide +kernel
theorem dX5_insertedTime_20 : decode cX5_insertedTime 20 = .ok (.iload_n 1, 1) := by decide +kernel
theorem dX5_insertedTime_21 : decode cX5_insertedTime 21 = .ok (.invokevirtual 167, 3) := by decide +kernel
theorem dX5_insertedTime_24 : decode cX5_insertedTime 24 = .ok (.iconst 0, 1) := by decide +kernel
theorem dX5_insertedTime_25 : decode cX5_insertedTime 25 = .ok (.istore_n 2, 1) := by decide +kernel
theorem dX5_insertedTime_26 : decode cX5_insertedTime 26 = .ok (.iconst 0, 1) := by decide +kernel
theorem dX5_insertedTime_27 : decode cX5_insertedTime 27 = .ok (.istore_n 3, 1) := by decide +kernel
theorem dX5_insertedTime_28 : decode cX5_insertedTime 28 = .ok (.iload_n 3, 1) := by decide +kernel
theorem dX5_insertedTime_29 : decode cX5_insertedTime 29 = .ok (.aload_n 0, 1) := by decide +kernel
theorem dX5_insertedTime_30 : decode cX5_insertedTime 30 = .ok (.getfield 164, 3) := by decide +kernel
theorem dX5_insertedTime_33 : decode cX5_insertedTime 33 = .ok (.if_icmp .ge 107, 3) := by decide +kernel
theorem dX5_insertedTime_36 : decode cX5_insertedTime 36 = .ok (.iconst 0, 1) := by decide +kernel
theorem dX5_insertedTime_37 : decode cX5_insertedTime 37 = .ok (.istore 4, 2) := by decide +kernel
theorem dX5_insertedTime_39 : decode cX5_insertedTime 39 = .ok (.iconst 1, 1) := by decide +kernel
theorem dX5_insertedTime_40 : decode cX5_insertedTime 40 = .ok (.istore 5, 2) := by decide +kernel
theorem dX5_insertedTime_42 : decode cX5_insertedTime 42 = .ok (.iload 5, 2) := by decide +kernel
theorem dX5_insertedTime_44 : decode cX5_insertedTime 44 = .ok (.iload_n 3, 1) := by decide +kernel
theorem dX5_insertedTime_45 : decode cX5_insertedTime 45 = .ok (.if_icmp .gt 39, 3) := by decide +kernel
theorem dX5_insertedTime_48 : decode cX5_insertedTime 48 = .ok (.aload_n 0, 1) := by decide +kernel
theorem dX5_insertedTime_49 : decode cX5_insertedTime 49 = .ok (.iload_n 1, 1) := by decide +kernel
theorem dX5_insertedTime_50 : decode cX5_insertedTime 50 = .ok (.iload_n 3, 1) := by decide +kernel
theorem dX5_insertedTime_51 : decode cX5_insertedTime 51 = .ok (.iload_n 3, 1) := by decide +kernel
theorem dX5_insertedTime_52 : decode cX5_insertedTime 52 = .ok (.iload 5, 2) := by decide +kernel
theorem dX5_insertedTime_54 : decode cX5_insertedTime 54 = .ok (.invokevirtual 178, 3) := by decide +kernel
theorem dX5_insertedTime_57 : decode cX5_insertedTime 57 = .ok (.aload_n 0, 1) := by decide +kernel
theorem dX5_insertedTime_58 : decode cX5_insertedTime 58 = .ok (.iload_n 1, 1) := by decide +kernel
theorem dX5_insertedTime_59 : decode cX5_insertedTime 59 = .ok (.iload_n 3, 1) := by decide +kernel
theorem dX5_insertedTime_60 : decode cX5_insertedTime 60 = .ok (.iload_n 3, 1) := by decide +kernel
theorem dX5_insertedTime_61 : decode cX5_insertedTime 61 = .ok (.iload 4, 2) := by decide +kernel
theorem dX5_insertedTime_63 : decode cX5_insertedTime 63 = .ok (.invokevirtual 178, 3) := by decide +kernel
theorem dX5_insertedTime_66 : decode cX5_insertedTime 66 = .ok (.if_icmp .ge 8, 3) := by decide +kernel
theorem dX5_insertedTime_69 : decode cX5_insertedTime 69 = .ok (.iload 5, 2) := by decide +kernel
theorem dX5_insertedTime_71 : decode cX5_insertedTime 71 = .ok (.goto 5, 3) := by decide +kernel
theorem dX5_insertedTime_74 : decode cX5_insertedTime 74 = .ok (.iload 4, 2) := by decide +kernel
theorem dX5_insertedTime_76 : decode cX5_insertedTime 76 = .ok (.istore 4, 2) := by decide +kernel
theorem dX5_insertedTime_78 : decode cX5_insertedTime 78 = .ok (.iinc 5 1, 3) := by decide +kernel
theorem dX5_insertedTime_81 : decode cX5_insertedTime 81 = .ok (.goto (-39), 3) := by decide +kernel
theorem dX5_insertedTime_84 : decode cX5_insertedTime 84 = .ok (.aload_n 0, 1) := by decide +kernel
theorem dX5_insertedTime_85 : decode cX5_insertedTime 85 = .ok (.iload_n 1, 1) := by decide +kernel
theorem dX5_insertedTime_86 : decode cX5_insertedTime 86 = .ok (.iload_n 3, 1) := by decide +kernel
theorem dX5_insertedTime_87 : decode cX5_insertedTime 87 = .ok (.iload_n 3, 1) := by decide +kernel
theorem dX5_insertedTime_88 : decode cX5_insertedTime 88 = .ok (.iload 4, 2) := by decide +kernel
theorem dX5_insertedTime_90 : decode cX5_insertedTime 90 = .ok (.invokevirtual 178, 3) := by decide +kernel
theorem dX5_insertedTime_93 : decode cX5_insertedTime 93 = .ok (.istore_n 2, 1) := by decide +kernel
theorem dX5_insertedTime_94 : decode cX5_insertedTime 94 = .ok (.iload_n 3, 1) := by decide +kernel
theorem dX5_insertedTime_95 : decode cX5_insertedTime 95 = .ok (.istore 5, 2) := by decide +kernel
theorem dX5_insertedTime_97 : decode cX5_insertedTime 97 = .ok (.iload 5, 2) := by decide +kernel
theorem dX5_insertedTime_99 : decode cX5_insertedTime 99 = .ok (.iload 4, 2) := by decide +kernel
theorem dX5_insertedTime_101 : decode cX5_insertedTime 101 = .ok (.if_icmp .le 25, 3) := by decide +kernel
theorem dX5_insertedTime_104 : decode cX5_insertedTime 104 = .ok (.aload_n 0, 1) := by decide +kernel
theorem dX5_insertedTime_105 : decode cX5_insertedTime 105 = .ok (.getfield 71, 3) := by decide +kernel
theorem dX5_insertedTime_108 : decode cX5_insertedTime 108 = .ok (.iload 5, 2) := by decide +kernel
theorem dX5_insertedTime_110 : decode cX5_insertedTime 110 = .ok (.aload_n 0, 1) := by decide +kernel
theorem dX5_insertedTime_111 : decode cX5_insertedTime 111 = .ok (.getfield 71, 3) := by decide +kernel
theorem dX5_insertedTime_114 : decode cX5_insertedTime 114 = .ok (.iload 5, 2) := by decide +kernel
theorem dX5_insertedTime_116 : decode cX5_insertedTime 116 = .ok (.iconst 1, 1) := by decide +kernel
theorem dX5_insertedTime_117 : decode cX5_insertedTime 117 = .ok (.isub, 1) := by decide +kernel
theorem dX5_insertedTime_118 : decode cX5_insertedTime 118 = .ok (.iaload, 1) := by decide +kernel
theorem dX5_insertedTime_119 : decode cX5_insertedTime 119 = .ok (.iastore, 1) := by decide +kernel
theorem dX5_insertedTime_120 : decode cX5_insertedTime 120 = .ok (.iinc 5 (-1), 3) := by decide +kernel
theorem dX5_insertedTime_123 : decode cX5_insertedTime 123 = .ok (.goto (-26), 3) := by decide +kernel
theorem dX5_insertedTime_126 : decode cX5_insertedTime 126 = .ok (.aload_n 0, 1) := by decide +kernel
theorem dX5_insertedTime_127 : decode cX5_insertedTime 127 = .ok (.getfield 71, 3) := by decide +kernel
theorem dX5_insertedTime_130 : decode cX5_insertedTime 130 = .ok (.iload 4, 2) := by decide +kernel
theorem dX5_insertedTime_132 : decode cX5_insertedTime 132 = .ok (.iload_n 3, 1) := by decide +kernel
theorem dX5_insertedTime_133 : decode cX5_insertedTime 133 = .ok (.iastore, 1) := by decide +kernel
theorem dX5_insertedTime_134 : decode cX5_insertedTime 134 = .ok (.iinc 3 1, 3) := by decide +kernel
theorem dX5_insertedTime_137 : decode cX5_insertedTime 137 = .ok (.goto (-109), 3) := by decide +kernel
theorem dX5_insertedTime_140 : decode cX5_insertedTime 140 = .ok (.iload_n 2, 1) := by decide +kernel
theorem dX5_insertedTime_141 : decode cX5_insertedTime 141 = .ok (.ireturn, 1) := by decide +kernel
set_option maxRecDepth 20000 in
theorem ggX5_triedTime_X5_bestTime : GoodIn wsX5_triedTime wsX5_bestTime := goodIn_r _ [5, 6, 7, 8, 4, 9, 10, 11, 12, 13, 14, 15, 16, 17, 18, 19, 20, 21, 22, 23, 24, 25, 26, 27, 28, 29, 30, 31, 32, 33, 34, 35, 36, 37, 38, 39, 40, 41, 42, 43, 44, 45, 46, 47, 48, 49, 50, 51, 52, 53, 54, 55, 56, 57, 58, 59, 60, 61, 62, 63, 64, 65, 66, 67, 68, 69, 70, 71, 72, 73, 74, 75, 76, 77, 78, 79, 80, 81, 82, 83, 84, 85, 86, 87, 88, 89, 90, 91, 92, 93, 94, 95, 96, 97, 98, 99, 100, 101, 102, 103] (by decide +kernel) (by decide +kernel)
set_option maxRecDepth 20000 in
theorem gX5_triedTime_X5_bestTime : GoodIn wsX5_triedTime (wsV RX5 182 RX5 yX5_bestTime wsX5_bestTime) := goodIn_app (goodIn_of _ (by decide +kernel)) ggX5_triedTime_X5_bestTime
theorem dX5_triedTime_0 : decode cX5_triedTime 0 = .ok (.aload_n 0, 1) := by decide +kernel
theorem dX5_triedTime_1 : decode cX5_triedTime 1 = .ok (.iload_n 1, 1) := by decide +kernel
theorem dX5_triedTime_2 : decode cX5_triedTime 2 = .ok (.invokevirtual 182, 3) := by decide +kernel
theorem dX5_triedTime_5 : decode cX5_triedTime 5 = .ok (.ireturn, 1) := by decide +kernel
set_option maxRecDepth 20000 in
theorem ggX5_work_X5_hasTape : GoodIn wsX5_work wsX5_hasTape := goodIn_r _ [11, 12, 13, 14, 15, 10, 16, 17, 18, 19, 20, 85, 86, 87, 88, 89, 90, 91, 92, 93, 94, 95, 96, 97, 98, 99, 100, 101, 102, 103, 104, 105, 106, 107, 108, 109, 110] (by decide +kernel) (by decide +kernel)
set_option maxRecDepth 20000 in
theorem gX5_work_X5_hasTape : GoodIn wsX5_work (wsV RX5 124 RX5 yX5_hasTape wsX5_hasTape) := goodIn_app (goodIn_of _ (by decide +kernel)) ggX5_work_X5_hasTape
set_option maxRecDepth 20000 in
theorem ggX5_work_X5_isDrive : GoodIn wsX5_work wsX5_isDrive := goodIn_r _ [16, 17, 18, 19, 10, 20, 85, 86, 87, 88, 89, 90, 91, 92, 93, 94, 95, 96, 97, 98, 99, 100, 101, 102, 103, 104, 105, 106, 107, 108, 109, 110] (by decide +kernel) (by decide +kernel)
set_option maxRecDepth 20000 in
theorem gX5_work_X5_isDrive : GoodIn wsX5_work (wsV RX5 92 RX5 yX5_isDrive wsX5_isDrive) := goodIn_app (goodIn_of _ (by decide +kernel)) ggX5_work_X5_isDrive
set_option maxRecDepth 20000 in
theorem ggX5_work_X5_isClean : GoodIn wsX5_work wsX5_isClean := goodIn_r _ [24, 25, 85, 86, 87, 88, 89, 90, 91, 92, 93, 94, 95, 96, 97, 98, 99, 100, 101, 102, 103, 104, 105, 106, 107, 108, 109, 110] (by decide +kernel) (by decide +kernel)
set_option maxRecDepth 20000 in
theorem gX5_work_X5_isClean : GoodIn wsX5_work (wsV RX5 131 RX5 yX5_isClean wsX5_isClean) := goodIn_app (goodIn_of _ (by decide +kernel)) ggX5_work_X5_isClean
set_option maxRecDepth 20000 in
theorem ggX5_work_X5_mayBoth : GoodIn wsX5_work wsX5_mayBoth := goodIn_r _ [29, 30, 85, 86, 87, 88, 89, 90, 91, 92, 93, 94, 95, 96, 97, 98, 99, 100, 101, 102, 103, 104, 105, 106, 107, 108, 109, 110] (by decide +kernel) (by decide +kernel)
set_option maxRecDepth 20000 in
theorem gX5_work_X5_mayBoth : GoodIn wsX5_work (wsV RX5 95 RX5 yX5_mayBoth wsX5_mayBoth) := goodIn_app (goodIn_of _ (by decide +kernel)) ggX5_work_X5_mayBoth
set_option maxRecDepth 20000 in
theorem ggX5_work_X5_arrange : GoodIn wsX5_work wsX5_arrange := goodIn_r _ [34, 1, 35, 36, 2, 37, 38, 39, 10, 40, 41, 12, 3, 42, 43, 44, 45, 4, 46, 47, 48, 49, 50, 51, 52, 53, 54, 55, 56, 57, 58, 59, 60, 61, 62, 63, 64, 65, 66, 67, 68, 69, 70, 71, 72, 73, 74, 75, 76, 77, 78, 79, 80, 85, 86, 87, 88, 89, 90, 91, 92, 93, 94, 95, 96, 97, 98, 99, 100, 101, 102, 103, 104, 105, 106, 107, 108, 109, 110] (by decide +kernel) (by decide +kernel)
set_option maxRecDepth 20000 in
theorem gX5_work_X5_arrange : GoodIn wsX5_work (wsV RX5 175 RX5 yX5_arrange wsX5_arrange) := goodIn_app (goodIn_of _ (by decide +kernel)) ggX5_work_X5_arrange
set_option maxRecDepth 20000 in
theorem ggX5_work_X5_startOf : GoodIn wsX5_work wsX5_startOf := goodIn_r _ [55, 56, 46, 3, 57, 85, 86, 87, 88, 89, 90, 91, 92, 93, 94, 95, 96, 97, 98, 99, 100, 101, 102, 103, 104, 105, 106, 107, 108, 109, 110] (by decide +kernel) (by decide +kernel)
set_option maxRecDepth 20000 in
theorem gX5_work_X5_startOf : GoodIn wsX5_work (wsV RX5 158 RX5 yX5_startOf wsX5_startOf) := goodIn_app (goodIn_of _ (by decide +kernel)) ggX5_work_X5_startOf
set_option maxRecDepth 20000 in
theorem ggX5_work_X5_blocksOf : GoodIn wsX5_work wsX5_blocksOf := goodIn_r _ [61, 62, 46, 3, 57, 85, 86, 87, 88, 89, 90, 91, 92, 93, 94, 95, 96, 97, 98, 99, 100, 101, 102, 103, 104, 105, 106, 107, 108, 109, 110] (by decide +kernel) (by decide +kernel)
set_option maxRecDepth 20000 in
theorem gX5_work_X5_blocksOf : GoodIn wsX5_work (wsV RX5 161 RX5 yX5_blocksOf wsX5_blocksOf) := goodIn_app (goodIn_of _ (by decide +kernel)) ggX5_work_X5_blocksOf
set_option maxRecDepth 20000 in
theorem ggX5_work_X5_run : GoodIn wsX5_work wsX5_run := goodIn_r _ [84, 51, 5, 25, 63, 64, 65, 10, 66, 12, 67, 68, 69, 70, 71, 72, 73, 74, 75, 76, 77, 78, 79, 80, 85, 86, 87, 88, 89, 90, 91, 92, 93, 94, 95, 96, 97, 98, 99, 100, 101, 102, 103, 104, 105, 106, 107, 108, 109, 110] (by decide +kernel) (by decide +kernel)
set_option maxRecDepth 20000 in
theorem gX5_work_X5_run : GoodIn wsX5_work (wsV RX5 141 RX5 yX5_run wsX5_run) := goodIn_app (goodIn_of _ (by decide +kernel)) ggX5_work_X5_run
theorem dX5_work_0 : decode cX5_work 0 = .ok (.aload_n 0, 1) := by decide +kernel
theorem dX5_work_1 : decode cX5_work 1 = .ok (.iload_n 1, 1) := by decide +kernel
theorem dX5_work_2 : decode cX5_work 2 = .ok (.invokevirtual 124, 3) := by decide +kernel
theorem dX5_work_5 : decode cX5_work 5 = .ok (.istore_n 2, 1) := by decide +kernel
theorem dX5_work_6 : decode cX5_work 6 = .ok (.aload_n 0, 1) := by decide +kernel
theorem dX5_work_7 : decode cX5_work 7 = .ok (.aload_n 0, 1) := by decide +kernel
theorem dX5_work_8 : decode cX5_work 8 = .ok (.iload_n 1, 1) := by decide +kernel
theorem dX5_work_9 : decode cX5_work 9 = .ok (.invokevirtual 92, 3) := by decide +kernel
theorem dX5_work_12 : decode cX5_work 12 = .ok (.iload_n 2, 1) := by decide +kernel
theorem dX5_work_13 : decode cX5_work 13 = .ok (.ifCond .eq 15, 3) := by decide +kernel
theorem dX5_work_16 : decode cX5_work 16 = .ok (.aload_n 0, 1) := by decide +kernel
theorem dX5_work_17 : decode cX5_work 17 = .ok (.iload_n 1, 1) := by decide +kernel
theorem dX5_work_18 : decode cX5_work 18 = .ok (.invokevirtual 131, 3) := by decide +kernel
theorem dX5_work_21 : decode cX5_work 21 = .ok (.ifCond .eq 7, 3) := by decide +kernel
theorem dX5_work_24 : decode cX5_work 24 = .ok (.iconst 1, 1) := by decide +kernel
theorem dX5_work_25 : decode cX5_work 25 = .ok (.goto 4, 3) := by decide +kernel
theorem dX5_work_28 : decode cX5_work 28 = .ok (.iconst 0, 1) := by decide +kernel
theorem dX5_work_29 : decode cX5_work 29 = .ok (.invokevirtual 95, 3) := by decide +kernel
theorem dX5_work_32 : decode cX5_work 32 = .ok (.ifCond .ne 5, 3) := by decide +kernel
theorem dX5_work_35 : decode cX5_work 35 = .ok (.iconst 0, 1) := by decide +kernel
theorem dX5_work_36 : decode cX5_work 36 = .ok (.ireturn, 1) := by decide +kernel
theorem dX5_work_37 : decode cX5_work 37 = .ok (.aload_n 0, 1) := by decide +kernel
theorem dX5_work_38 : decode cX5_work 38 = .ok (.iload_n 1, 1) := by decide +kernel
theorem dX5_work_39 : decode cX5_work 39 = .ok (.invokevirtual 175, 3) := by decide +kernel
theorem dX5_work_42 : decode cX5_work 42 = .ok (.pop, 1) := by decide +kernel
theorem dX5_work_43 : decode cX5_work 43 = .ok (.iconst 0, 1) := by decide +kernel
theorem dX5_work_44 : decode cX5_work 44 = .ok (.istore_n 3, 1) := by decide +kernel
theorem dX5_work_45 : decode cX5_work 45 = .ok (.iconst 0, 1) := by decide +kernel
theorem dX5_work_46 : decode cX5_work 46 = .ok (.istore 4, 2) := by decide +kernel
theorem dX5_work_48 : decode cX5_work 48 = .ok (.iload 4, 2) := by decide +kernel
theorem dX5_work_50 : decode cX5_work 50 = .ok (.aload_n 0, 1) := by decide +kernel
theorem dX5_work_51 : decode cX5_work 51 = .ok (.getfield 164, 3) := by decide +kernel
theorem dX5_work_54 : decode cX5_work 54 = .ok (.if_icmp .ge 85, 3) := by decide +kernel
theorem dX5_work_57 : decode cX5_work 57 = .ok (.aload_n 0, 1) := by decide +kernel
theorem dX5_work_58 : decode cX5_work 58 = .ok (.iload_n 1, 1) := by decide +kernel
theorem dX5_work_59 : decode cX5_work 59 = .ok (.invokevirtual 131, 3) := by decide +kernel
theorem dX5_work_62 : decode cX5_work 62 = .ok (.ifCond .eq 77, 3) := by decide +kernel
theorem dX5_work_65 : decode cX5_work 65 = .ok (.aload_n 0, 1) := by decide +kernel
theorem dX5_work_66 : decode cX5_work 66 = .ok (.getfield 65, 3) := by decide +kernel
theorem dX5_work_69 : decode cX5_work 69 = .ok (.iload 4, 2) := by decide +kernel
theorem dX5_work_71 : decode cX5_work 71 = .ok (.iaload, 1) := by decide +kernel
theorem dX5_work_72 : decode cX5_work 72 = .ok (.istore 5, 2) := by decide +kernel
theorem dX5_work_74 : decode cX5_work 74 = .ok (.aload_n 0, 1) := by decide +kernel
theorem dX5_work_75 : decode cX5_work 75 = .ok (.getfield 62, 3) := by decide +kernel
theorem dX5_work_78 : decode cX5_work 78 = .ok (.iload 5, 2) := by decide +kernel
theorem dX5_work_80 : decode cX5_work 80 = .ok (.iaload, 1) := by decide +kernel
theorem dX5_work_81 : decode cX5_work 81 = .ok (.istore 6, 2) := by decide +kernel
theorem dX5_work_83 : decode cX5_work 83 = .ok (.aload_n 0, 1) := by decide +kernel
theorem dX5_work_84 : decode cX5_work 84 = .ok (.iload_n 1, 1) := by decide +kernel
theorem dX5_work_85 : decode cX5_work 85 = .ok (.aload_n 0, 1) := by decide +kernel
theorem dX5_work_86 : decode cX5_work 86 = .ok (.iload 5, 2) := by decide +kernel
theorem dX5_work_88 : decode cX5_work 88 = .ok (.invokevirtual 158, 3) := by decide +kernel
theorem dX5_work_91 : decode cX5_work 91 = .ok (.aload_n 0, 1) := by decide +kernel
theorem dX5_work_92 : decode cX5_work 92 = .ok (.iload 5, 2) := by decide +kernel
theorem dX5_work_94 : decode cX5_work 94 = .ok (.invokevirtual 161, 3) := by decide +kernel
theorem dX5_work_97 : decode cX5_work 97 = .ok (.invokevirtual 141, 3) := by decide +kernel
theorem dX5_work_100 : decode cX5_work 100 = .ok (.pop, 1) := by decide +kernel
theorem dX5_work_101 : decode cX5_work 101 = .ok (.aload_n 0, 1) := by decide +kernel
theorem dX5_work_102 : decode cX5_work 102 = .ok (.getfield 59, 3) := by decide +kernel
theorem dX5_work_105 : decode cX5_work 105 = .ok (.iload 6, 2) := by decide +kernel
theorem dX5_work_107 : decode cX5_work 107 = .ok (.iconst 1, 1) := by decide +kernel
theorem dX5_work_108 : decode cX5_work 108 = .ok (.bastore, 1) := by decide +kernel
theorem dX5_work_109 : decode cX5_work 109 = .ok (.iload_n 3, 1) := by decide +kernel
theorem dX5_work_110 : decode cX5_work 110 = .ok (.aload_n 0, 1) := by decide +kernel
theorem dX5_work_111 : decode cX5_work 111 = .ok (.getfield 38, 3) := by decide +kernel
theorem dX5_work_114 : decode cX5_work 114 = .ok (.iload_n 1, 1) := by decide +kernel
theorem dX5_work_115 : decode cX5_work 115 = .ok (.iaload, 1) := by decide +kernel
theorem dX5_work_116 : decode cX5_work 116 = .ok (.aload_n 0, 1) := by decide +kernel
theorem dX5_work_117 : decode cX5_work 117 = .ok (.getfield 56, 3) := by decide +kernel
theorem dX5_work_120 : decode cX5_work 120 = .ok (.iload 6, 2) := by decide +kernel
theorem dX5_work_122 : decode cX5_work 122 = .ok (.iaload, 1) := by decide +kernel
theorem dX5_work_123 : decode cX5_work 123 = .ok (.if_icmp .le 7, 3) := by decide +kernel
theorem dX5_work_126 : decode cX5_work 126 = .ok (.iconst 1, 1) := by decide +kernel
theorem dX5_work_127 : decode cX5_work 127 = .ok (.goto 4, 3) := by decide +kernel
theorem dX5_work_130 : decode cX5_work 130 = .ok (.iconst 0, 1) := by decide +kernel
theorem dX5_work_131 : decode cX5_work 131 = .ok (.iadd, 1) := by decide +kernel
theorem dX5_work_132 : decode cX5_work 132 = .ok (.istore_n 3, 1) := by decide +kernel
theorem dX5_work_133 : decode cX5_work 133 = .ok (.iinc 4 1, 3) := by decide +kernel
theorem dX5_work_136 : decode cX5_work 136 = .ok (.goto (-88), 3) := by decide +kernel
theorem dX5_work_139 : decode cX5_work 139 = .ok (.iload_n 3, 1) := by decide +kernel
theorem dX5_work_140 : decode cX5_work 140 = .ok (.ireturn, 1) := by decide +kernel
theorem dX5_done_0 : decode cX5_done 0 = .ok (.aload_n 0, 1) := by decide +kernel
theorem dX5_done_1 : decode cX5_done 1 = .ok (.iconst 0, 1) := by decide +kernel
theorem dX5_done_2 : decode cX5_done 2 = .ok (.putfield 74, 3) := by decide +kernel
theorem dX5_done_5 : decode cX5_done 5 = .ok (.iconst 0, 1) := by decide +kernel
theorem dX5_done_6 : decode cX5_done 6 = .ok (.istore_n 1, 1) := by decide +kernel
theorem dX5_done_7 : decode cX5_done 7 = .ok (.iconst 0, 1) := by decide +kernel
theorem dX5_done_8 : decode cX5_done 8 = .ok (.istore_n 2, 1) := by decide +kernel
theorem dX5_done_9 : decode cX5_done 9 = .ok (.iload_n 2, 1) := by decide +kernel
theorem dX5_done_10 : decode cX5_done 10 = .ok (.aload_n 0, 1) := by decide +kernel
theorem dX5_done_11 : decode cX5_done 11 = .ok (.getfield 144, 3) := by decide +kernel
theorem dX5_done_14 : decode cX5_done 14 = .ok (.if_icmp .ge 26, 3) := by decide +kernel
theorem dX5_done_17 : decode cX5_done 17 = .ok (.iload_n 1, 1) := by decide +kernel
theorem dX5_done_18 : decode cX5_done 18 = .ok (.aload_n 0, 1) := by decide +kernel
theorem dX5_done_19 : decode cX5_done 19 = .ok (.getfield 59, 3) := by decide +kernel
theorem dX5_done_22 : decode cX5_done 22 = .ok (.iload_n 2, 1) := by decide +kernel
theorem dX5_done_23 : decode cX5_done 23 = .ok (.baload, 1) := by decide +kernel
theorem dX5_done_24 : decode cX5_done 24 = .ok (.ifCond .eq 7, 3) := by decide +kernel
theorem dX5_done_27 : decode cX5_done 27 = .ok (.iconst 1, 1) := by decide +kernel
theorem dX5_done_28 : decode cX5_done 28 = .ok (.goto 4, 3) := by decide +kernel
theorem dX5_done_31 : decode cX5_done 31 = .ok (.iconst 0, 1) := by decide +kernel
theorem dX5_done_32 : decode cX5_done 32 = .ok (.iadd, 1) := by decide +kernel
theorem dX5_done_33 : decode cX5_done 33 = .ok (.istore_n 1, 1) := by decide +kernel
theorem dX5_done_34 : decode cX5_done 34 = .ok (.iinc 2 1, 3) := by decide +kernel
theorem dX5_done_37 : decode cX5_done 37 = .ok (.goto (-28), 3) := by decide +kernel
theorem dX5_done_40 : decode cX5_done 40 = .ok (.iload_n 1, 1) := by decide +kernel
theorem dX5_done_41 : decode cX5_done 41 = .ok (.ireturn, 1) := by decide +kernel
theorem dX5_unlabelled_0 : decode cX5_unlabelled 0 = .ok (.iconst 0, 1) := by decide +kernel
theorem dX5_unlabelled_1 : decode cX5_unlabelled 1 = .ok (.istore_n 1, 1) := by decide +kernel
theorem dX5_unlabelled_2 : decode cX5_unlabelled 2 = .ok (.iconst 0, 1) := by decide +kernel
theorem dX5_unlabelled_3 : decode cX5_unlabelled 3 = .ok (.istore_n 2, 1) := by decide +kernel
theorem dX5_unlabelled_4 : decode cX5_unlabelled 4 = .ok (.iload_n 2, 1) := by decide +kernel
theorem dX5_unlabelled_5 : decode cX5_unlabelled 5 = .ok (.aload_n 0, 1) := by decide +kernel
theorem dX5_unlabelled_6 : decode cX5_unlabelled 6 = .ok (.getfield 78, 3) := by decide +kernel
theorem dX5_unlabelled_9 : decode cX5_unlabelled 9 = .ok (.if_icmp .ge 26, 3) := by decide +kernel
theorem dX5_unlabelled_12 : decode cX5_unlabelled 12 = .ok (.iload_n 1, 1) := by decide +kernel
theorem dX5_unlabelled_13 : decode cX5_unlabelled 13 = .ok (.aload_n 0, 1) := by decide +kernel
theorem dX5_unlabelled_14 : decode cX5_unlabelled 14 = .ok (.getfield 22, 3) := by decide +kernel
theorem dX5_unlabelled_17 : decode cX5_unlabelled 17 = .ok (.iload_n 2, 1) := by decide +kernel
theorem dX5_unlabelled_18 : decode cX5_unlabelled 18 = .ok (.baload, 1) := by decide +kernel
theorem dX5_unlabelled_19 : decode cX5_unlabelled 19 = .ok (.ifCond .eq 7, 3) := by decide +kernel
theorem dX5_unlabelled_22 : decode cX5_unlabelled 22 = .ok (.iconst 1, 1) := by decide +kernel
theorem dX5_unlabelled_23 : decode cX5_unlabelled 23 = .ok (.goto 4, 3) := by decide +kernel
theorem dX5_unlabelled_26 : decode cX5_unlabelled 26 = .ok (.iconst 0, 1) := by decide +kernel
theorem dX5_unlabelled_27 : decode cX5_unlabelled 27 = .ok (.iadd, 1) := by decide +kernel
theorem dX5_unlabelled_28 : decode cX5_unlabelled 28 = .ok (.istore_n 1, 1) := by decide +kernel
theorem dX5_unlabelled_29 : decode cX5_unlabelled 29 = .ok (.iinc 2 1, 3) := by decide +kernel
theorem dX5_unlabelled_32 : decode cX5_unlabelled 32 = .ok (.goto (-28), 3) := by decide +kernel
theorem dX5_unlabelled_35 : decode cX5_unlabelled 35 = .ok (.iload_n 1, 1) := by decide +kernel
theorem dX5_unlabelled_36 : decode cX5_unlabelled 36 = .ok (.ireturn, 1) := by decide +kernel
set_option maxRecDepth 20000 in
theorem ggX5_lose_X5_isTape : GoodIn wsX5_lose wsX5_isTape := goodIn_r _ [7, 8, 9, 10, 6, 11, 21, 22, 23, 24, 25, 26, 27, 28, 29, 30, 31, 32, 33, 34, 35, 36, 37, 38, 39, 40, 41, 42, 43, 44, 45, 46] (by decide +kernel) (by decide +kernel)
set_option maxRecDepth 20000 in
theorem gX5_lose_X5_isTape : GoodIn wsX5_lose (wsV RX5 88 RX5 yX5_isTape wsX5_isTape) := goodIn_app (goodIn_of _ (by decide +kernel)) ggX5_lose_X5_isTape
set_option maxRecDepth 20000 in
theorem ggX5_lose_X5_mayBoth : GoodIn wsX5_lose wsX5_mayBoth := goodIn_r _ [15, 16, 21, 22, 23, 24, 25, 26, 27, 28, 29, 30, 31, 32, 33, 34, 35, 36, 37, 38, 39, 40, 41, 42, 43, 44, 45, 46] (by decide +kernel) (by decide +kernel)
set_option maxRecDepth 20000 in
theorem gX5_lose_X5_mayBoth : GoodIn wsX5_lose (wsV RX5 95 RX5 yX5_mayBoth wsX5_mayBoth) := goodIn_app (goodIn_of _ (by decide +kernel)) ggX5_lose_X5_mayBoth
set_option maxRecDepth 20000 in
theorem ggX5_lose_X5_unlabelled : GoodIn wsX5_lose wsX5_unlabelled := goodIn_r _ [20, 8, 2, 21, 22, 23, 24, 25, 26, 27, 28, 29, 30, 31, 32, 33, 34, 35, 36, 37, 38, 39, 40, 41, 42, 43, 44, 45, 46] (by decide +kernel) (by decide +kernel)
set_option maxRecDepth 20000 in
theorem gX5_lose_X5_unlabelled : GoodIn wsX5_lose (wsV RX5 185 RX5 yX5_unlabelled wsX5_unlabelled) := goodIn_app (goodIn_of _ (by decide +kernel)) ggX5_lose_X5_unlabelled
theorem dX5_lose_0 : decode cX5_lose 0 = .ok (.aload_n 0, 1) := by decide +kernel
theorem dX5_lose_1 : decode cX5_lose 1 = .ok (.iload_n 1, 1) := by decide +kernel
theorem dX5_lose_2 : decode cX5_lose 2 = .ok (.invokevirtual 88, 3) := by decide +kernel
theorem dX5_lose_5 : decode cX5_lose 5 = .ok (.istore_n 2, 1) := by decide +kernel
theorem dX5_lose_6 : decode cX5_lose 6 = .ok (.aload_n 0, 1) := by decide +kernel
theorem dX5_lose_7 : decode cX5_lose 7 = .ok (.iload_n 2, 1) := by decide +kernel
theorem dX5_lose_8 : decode cX5_lose 8 = .ok (.iload_n 2, 1) := by decide +kernel
theorem dX5_lose_9 : decode cX5_lose 9 = .ok (.ifCond .eq 26, 3) := by decide +kernel
theorem dX5_lose_12 : decode cX5_lose 12 = .ok (.aload_n 0, 1) := by decide +kernel
theorem dX5_lose_13 : decode cX5_lose 13 = .ok (.getfield 19, 3) := by decide +kernel
theorem dX5_lose_16 : decode cX5_lose 16 = .ok (.iload_n 1, 1) := by decide +kernel
theorem dX5_lose_17 : decode cX5_lose 17 = .ok (.iaload, 1) := by decide +kernel
theorem dX5_lose_18 : decode cX5_lose 18 = .ok (.iconst (-1), 1) := by decide +kernel
theorem dX5_lose_19 : decode cX5_lose 19 = .ok (.if_icmp .ne 16, 3) := by decide +kernel
theorem dX5_lose_22 : decode cX5_lose 22 = .ok (.aload_n 0, 1) := by decide +kernel
theorem dX5_lose_23 : decode cX5_lose 23 = .ok (.getfield 22, 3) := by decide +kernel
theorem dX5_lose_26 : decode cX5_lose 26 = .ok (.iload_n 1, 1) := by decide +kernel
theorem dX5_lose_27 : decode cX5_lose 27 = .ok (.baload, 1) := by decide +kernel
theorem dX5_lose_28 : decode cX5_lose 28 = .ok (.ifCond .ne 7, 3) := by decide +kernel
theorem dX5_lose_31 : decode cX5_lose 31 = .ok (.iconst 1, 1) := by decide +kernel
theorem dX5_lose_32 : decode cX5_lose 32 = .ok (.goto 4, 3) := by decide +kernel
theorem dX5_lose_35 : decode cX5_lose 35 = .ok (.iconst 0, 1) := by decide +kernel
theorem dX5_lose_36 : decode cX5_lose 36 = .ok (.invokevirtual 95, 3) := by decide +kernel
theorem dX5_lose_39 : decode cX5_lose 39 = .ok (.ifCond .ne 5, 3) := by decide +kernel
theorem dX5_lose_42 : decode cX5_lose 42 = .ok (.iconst 0, 1) := by decide +kernel
theorem dX5_lose_43 : decode cX5_lose 43 = .ok (.ireturn, 1) := by decide +kernel
theorem dX5_lose_44 : decode cX5_lose 44 = .ok (.aload_n 0, 1) := by decide +kernel
theorem dX5_lose_45 : decode cX5_lose 45 = .ok (.getfield 22, 3) := by decide +kernel
theorem dX5_lose_48 : decode cX5_lose 48 = .ok (.iload_n 1, 1) := by decide +kernel
theorem dX5_lose_49 : decode cX5_lose 49 = .ok (.iconst 1, 1) := by decide +kernel
theorem dX5_lose_50 : decode cX5_lose 50 = .ok (.bastore, 1) := by decide +kernel
theorem dX5_lose_51 : decode cX5_lose 51 = .ok (.aload_n 0, 1) := by decide +kernel
theorem dX5_lose_52 : decode cX5_lose 52 = .ok (.invokevirtual 185, 3) := by decide +kernel
theorem dX5_lose_55 : decode cX5_lose 55 = .ok (.ireturn, 1) := by decide +kernel
set_option maxRecDepth 20000 in
theorem ggX5_inventory_X5_unlabelled : GoodIn wsX5_inventory wsX5_unlabelled := goodIn_r _ [10, 2, 5, 11, 12, 13, 14, 15, 16, 17, 18, 19, 20, 21, 22, 23, 24, 25, 26, 27, 28, 29, 30, 31, 32, 33, 34, 35, 36] (by decide +kernel) (by decide +kernel)
set_option maxRecDepth 20000 in
theorem gX5_inventory_X5_unlabelled : GoodIn wsX5_inventory (wsV RX5 185 RX5 yX5_unlabelled wsX5_unlabelled) := goodIn_app (goodIn_of _ (by decide +kernel)) ggX5_inventory_X5_unlabelled
theorem dX5_inventory_0 : decode cX5_inventory 0 = .ok (.aload_n 0, 1) := by decide +kernel
theorem dX5_inventory_1 : decode cX5_inventory 1 = .ok (.iconst 0, 1) := by decide +kernel
theorem dX5_inventory_2 : decode cX5_inventory 2 = .ok (.putfield 74, 3) := by decide +kernel
theorem dX5_inventory_5 : decode cX5_inventory 5 = .ok (.iconst 0, 1) := by decide +kernel
theorem dX5_inventory_6 : decode cX5_inventory 6 = .ok (.istore_n 1, 1) := by decide +kernel
theorem dX5_inventory_7 : decode cX5_inventory 7 = .ok (.iconst 0, 1) := by decide +kernel
theorem dX5_inventory_8 : decode cX5_inventory 8 = .ok (.istore_n 2, 1) := by decide +kernel
theorem dX5_inventory_9 : decode cX5_inventory 9 = .ok (.iload_n 2, 1) := by decide +kernel
theorem dX5_inventory_10 : decode cX5_inventory 10 = .ok (.aload_n 0, 1) := by decide +kernel
theorem dX5_inventory_11 : decode cX5_inventory 11 = .ok (.getfield 78, 3) := by decide +kernel
theorem dX5_inventory_14 : decode cX5_inventory 14 = .ok (.if_icmp .ge 40, 3) := by decide +kernel
theorem dX5_inventory_17 : decode cX5_inventory 17 = .ok (.aload_n 0, 1) := by decide +kernel
theorem dX5_inventory_18 : decode cX5_inventory 18 = .ok (.getfield 19, 3) := by decide +kernel
theorem dX5_inventory_21 : decode cX5_inventory 21 = .ok (.iload_n 2, 1) := by decide +kernel
theorem dX5_inventory_22 : decode cX5_inventory 22 = .ok (.iaload, 1) := by decide +kernel
theorem dX5_inventory_23 : decode cX5_inventory 23 = .ok (.iconst (-1), 1) := by decide +kernel
theorem dX5_inventory_24 : decode cX5_inventory 24 = .ok (.if_icmp .ne 22, 3) := by decide +kernel
theorem dX5_inventory_27 : decode cX5_inventory 27 = .ok (.aload_n 0, 1) := by decide +kernel
theorem dX5_inventory_28 : decode cX5_inventory 28 = .ok (.getfield 16, 3) := by decide +kernel
theorem dX5_inventory_31 : decode cX5_inventory 31 = .ok (.iload_n 2, 1) := by decide +kernel
theorem dX5_inventory_32 : decode cX5_inventory 32 = .ok (.iaload, 1) := by decide +kernel
theorem dX5_inventory_33 : decode cX5_inventory 33 = .ok (.iload_n 1, 1) := by decide +kernel
theorem dX5_inventory_34 : decode cX5_inventory 34 = .ok (.if_icmp .le 12, 3) := by decide +kernel
theorem dX5_inventory_37 : decode cX5_inventory 37 = .ok (.aload_n 0, 1) := by decide +kernel
theorem dX5_inventory_38 : decode cX5_inventory 38 = .ok (.getfield 16, 3) := by decide +kernel
theorem dX5_inventory_41 : decode cX5_inventory 41 = .ok (.iload_n 2, 1) := by decide +kernel
theorem dX5_inventory_42 : decode cX5_inventory 42 = .ok (.iaload, 1) := by decide +kernel
theorem dX5_inventory_43 : decode cX5_inventory 43 = .ok (.goto 4, 3) := by decide +kernel
theorem dX5_inventory_46 : decode cX5_inventory 46 = .ok (.iload_n 1, 1) := by decide +kernel
theorem dX5_inventory_47 : decode cX5_inventory 47 = .ok (.istore_n 1, 1) := by decide +kernel
theorem dX5_inventory_48 : decode cX5_inventory 48 = .ok (.iinc 2 1, 3) := by decide +kernel
theorem dX5_inventory_51 : decode cX5_inventory 51 = .ok (.goto (-42), 3) := by decide +kernel
theorem dX5_inventory_54 : decode cX5_inventory 54 = .ok (.iconst 2, 1) := by decide +kernel
theorem dX5_inventory_55 : decode cX5_inventory 55 = .ok (.iload_n 1, 1) := by decide +kernel
theorem dX5_inventory_56 : decode cX5_inventory 56 = .ok (.imul, 1) := by decide +kernel
theorem dX5_inventory_57 : decode cX5_inventory 57 = .ok (.iconst 5, 1) := by decide +kernel
theorem dX5_inventory_58 : decode cX5_inventory 58 = .ok (.aload_n 0, 1) := by decide +kernel
theorem dX5_inventory_59 : decode cX5_inventory 59 = .ok (.invokevirtual 185, 3) := by decide +kernel
theorem dX5_inventory_62 : decode cX5_inventory 62 = .ok (.imul, 1) := by decide +kernel
theorem dX5_inventory_63 : decode cX5_inventory 63 = .ok (.iadd, 1) := by decide +kernel
theorem dX5_inventory_64 : decode cX5_inventory 64 = .ok (.istore_n 2, 1) := by decide +kernel
theorem dX5_inventory_65 : decode cX5_inventory 65 = .ok (.iconst 0, 1) := by decide +kernel
theorem dX5_inventory_66 : decode cX5_inventory 66 = .ok (.istore_n 3, 1) := by decide +kernel
theorem dX5_inventory_67 : decode cX5_inventory 67 = .ok (.iload_n 3, 1) := by decide +kernel
theorem dX5_inventory_68 : decode cX5_inventory 68 = .ok (.aload_n 0, 1) := by decide +kernel
theorem dX5_inventory_69 : decode cX5_inventory 69 = .ok (.getfield 78, 3) := by decide +kernel
theorem dX5_inventory_72 : decode cX5_inventory 72 = .ok (.if_icmp .ge 16, 3) := by decide +kernel
theorem dX5_inventory_75 : decode cX5_inventory 75 = .ok (.aload_n 0, 1) := by decide +kernel
theorem dX5_inventory_76 : decode cX5_inventory 76 = .ok (.getfield 22, 3) := by decide +kernel
theorem dX5_inventory_79 : decode cX5_inventory 79 = .ok (.iload_n 3, 1) := by decide +kernel
theorem dX5_inventory_80 : decode cX5_inventory 80 = .ok (.iconst 0, 1) := by decide +kernel
theorem dX5_inventory_81 : decode cX5_inventory 81 = .ok (.bastore, 1) := by decide +kernel
theorem dX5_inventory_82 : decode cX5_inventory 82 = .ok (.iinc 3 1, 3) := by decide +kernel
theorem dX5_inventory_85 : decode cX5_inventory 85 = .ok (.goto (-18), 3) := by decide +kernel
theorem dX5_inventory_88 : decode cX5_inventory 88 = .ok (.iload_n 2, 1) := by decide +kernel
theorem dX5_inventory_89 : decode cX5_inventory 89 = .ok (.ireturn, 1) := by decide +kernel
theorem dJ9_abs_0f7a4_0 : decode cJ9_abs_0f7a4 0 = .ok (.iload_n 0, 1) := by decide +kernel
theorem dJ9_abs_0f7a4_1 : decode cJ9_abs_0f7a4 1 = .ok (.ifCond .ge 8, 3) := by decide +kernel
theorem dJ9_abs_0f7a4_4 : decode cJ9_abs_0f7a4 4 = .ok (.iload_n 0, 1) := by decide +kernel
theorem dJ9_abs_0f7a4_5 : decode cJ9_abs_0f7a4 5 = .ok (.ineg, 1) := by decide +kernel
theorem dJ9_abs_0f7a4_6 : decode cJ9_abs_0f7a4 6 = .ok (.goto 4, 3) := by decide +kernel
theorem dJ9_abs_0f7a4_9 : decode cJ9_abs_0f7a4 9 = .ok (.iload_n 0, 1) := by decide +kernel
theorem dJ9_abs_0f7a4_10 : decode cJ9_abs_0f7a4 10 = .ok (.ireturn, 1) := by decide +kernel
theorem dJ9_max_7cf53_0 : decode cJ9_max_7cf53 0 = .ok (.iload_n 0, 1) := by decide +kernel
theorem dJ9_max_7cf53_1 : decode cJ9_max_7cf53 1 = .ok (.iload_n 1, 1) := by decide +kernel
theorem dJ9_max_7cf53_2 : decode cJ9_max_7cf53 2 = .ok (.if_icmp .lt 7, 3) := by decide +kernel
theorem dJ9_max_7cf53_5 : decode cJ9_max_7cf53 5 = .ok (.iload_n 0, 1) := by decide +kernel
theorem dJ9_max_7cf53_6 : decode cJ9_max_7cf53 6 = .ok (.goto 4, 3) := by decide +kernel
theorem dJ9_max_7cf53_9 : decode cJ9_max_7cf53 9 = .ok (.iload_n 1, 1) := by decide +kernel
theorem dJ9_max_7cf53_10 : decode cJ9_max_7cf53 10 = .ok (.ireturn, 1) := by decide +kernel
theorem dJ9_min_7cf53_0 : decode cJ9_min_7cf53 0 = .ok (.iload_n 0, 1) := by decide +kernel
theorem dJ9_min_7cf53_1 : decode cJ9_min_7cf53 1 = .ok (.iload_n 1, 1) := by decide +kernel
theorem dJ9_min_7cf53_2 : decode cJ9_min_7cf53 2 = .ok (.if_icmp .gt 7, 3) := by decide +kernel
theorem dJ9_min_7cf53_5 : decode cJ9_min_7cf53 5 = .ok (.iload_n 0, 1) := by decide +kernel
theorem dJ9_min_7cf53_6 : decode cJ9_min_7cf53 6 = .ok (.goto 4, 3) := by decide +kernel
theorem dJ9_min_7cf53_9 : decode cJ9_min_7cf53 9 = .ok (.iload_n 1, 1) := by decide +kernel
theorem dJ9_min_7cf53_10 : decode cJ9_min_7cf53 10 = .ok (.ireturn, 1) := by decide +kernel
set_option maxRecDepth 20000 in
theorem ggL_tape_X4_tape : GoodIn wsL_tape wsX4_tape := goodIn_ca (goodIn_ca (goodIn_r _ [7, 8, 9, 10, 11, 12, 13, 14, 15, 16, 17, 18, 19, 6, 20, 21, 22, 23, 24, 25, 26, 27, 28, 29, 30, 31, 32, 33, 34, 35, 36, 37, 38, 39, 40, 41, 42, 43, 44, 45, 46, 47, 48, 49, 50, 51, 52] (by decide +kernel) (by decide +kernel)) (goodIn_sub (fun _ h => List.mem_cons_of_mem _ (List.mem_append_left _ (List.mem_append_right _ h))) (by decide +kernel))) (goodIn_sub (fun _ h => List.mem_cons_of_mem _ (List.mem_append_right _ h)) (by decide +kernel))
set_option maxRecDepth 20000 in
theorem gL_tape_X4_tape : GoodIn wsL_tape (wsV RL 7 RX4 yX4_tape wsX4_tape) := goodIn_app (goodIn_of _ (by decide +kernel)) ggL_tape_X4_tape
end
section
abbrev vwCl : List vw_C := [(RX0, TX0, 7), (RX1, TX1, 5), (RX2, TX2, 6), (RX3, TX3, 8), (RX4, TX4, 6), (RX5, TX5, 26)]
end
section
/-! a layer of my own over the kit's rows: numbers as naturals, walks as short rows -/
def bI (b : Bool) : Int32 := if b then 1 else 0
def oI (o : Option Nat) : Int32 := match o with
  | none => -1
  | some n => nI n
theorem bI_t : bI true = 1 := rfl
theorem bI_f : bI false = 0 := rfl
theorem bI_eq0 {b : Bool} : bI b = 0 ↔ b = false := by cases b <;> decide
theorem bI_ne0 {b : Bool} : ¬ bI b = 0 ↔ b = true := by cases b <;> decide
theorem oI_none : oI none = -1 := rfl
theorem oI_some (n : Nat) : oI (some n) = nI n := rfl
theorem nI_nm1 {n : Nat} (h : n < 2 ^ 31) : ¬ nI n = -1 := fun q => by
  have h1 : (nI n).toInt = (-1 : Int32).toInt := by rw [q]
  rw [nI_toInt h] at h1
  have h2 : (-1 : Int32).toInt = -1 := by decide
  omega
theorem oI_m1 {o : Option Nat} (h : ∀ n, o = some n → n < 2 ^ 31) : oI o = -1 ↔ o = none := by
  cases o with
  | none => simp [oI]
  | some n =>
    refine ⟨fun q => absurd q (nI_nm1 (h n rfl)), fun q => by cases q⟩
theorem zI_split (x : Int32) : x < 0 ∨ ∃ j : Nat, j < 2 ^ 31 ∧ x = nI j := by
  by_cases h : x < 0
  · exact Or.inl h
  · exact Or.inr (nI_of h)

section ZL
variable {p : Program} {l : Launch} {e : Env} {R : Room} {s : State} {m : MethodId} {args : Array Value} {below : List Frame} {meth : Method} {c : Code} {H : Heap} {locs : List Loc} {cells slots : Nat} {Q : State → Prop}
variable {cc : ByteArray} {pc : Nat} {ls : Array Slot} {rest : List Value}
theorem zx_val {x y : Int32} (h : x = y) (k : W p l e R s m args below meth c H locs cells slots Q (F0 m pc ls (.int y :: rest))) : W p l e R s m args below meth c H locs cells slots Q (F0 m pc ls (.int x :: rest)) := by
  rw [h]; exact k
theorem zo_add (hx : p.tables.exec = Jvm.exec) (hb : c.code = cc) {a b : Nat} (d : decode cc pc = .ok (.iadd, 1)) (k : W p l e R s m args below meth c H locs cells slots Q (F0 m (pc + 1) ls (.int (nI (a + b)) :: rest))) : W p l e R s m args below meth c H locs cells slots Q (F0 m pc ls (.int (nI b) :: .int (nI a) :: rest)) := by
  refine lv_iadd hx hb d ?_
  rw [nI_add]
  exact k
theorem zo_mul (hx : p.tables.exec = Jvm.exec) (hb : c.code = cc) {a b : Nat} (d : decode cc pc = .ok (.imul, 1)) (k : W p l e R s m args below meth c H locs cells slots Q (F0 m (pc + 1) ls (.int (nI (a * b)) :: rest))) : W p l e R s m args below meth c H locs cells slots Q (F0 m pc ls (.int (nI b) :: .int (nI a) :: rest)) := by
  refine lv_imul hx hb d ?_
  rw [pk_mul]
  exact k
theorem zo_sub (hx : p.tables.exec = Jvm.exec) (hb : c.code = cc) {a b : Nat} (h : b ≤ a) (d : decode cc pc = .ok (.isub, 1)) (k : W p l e R s m args below meth c H locs cells slots Q (F0 m (pc + 1) ls (.int (nI (a - b)) :: rest))) : W p l e R s m args below meth c H locs cells slots Q (F0 m pc ls (.int (nI b) :: .int (nI a) :: rest)) := by
  refine lv_isub hx hb d ?_
  rw [pk_sub h]
  exact k
theorem zo_div (hx : p.tables.exec = Jvm.exec) (hb : c.code = cc) {a b : Nat} (h0 : 0 < b) (h1 : a < 2 ^ 31) (h2 : b < 2 ^ 31) (d : decode cc pc = .ok (.idiv, 1)) (k : W p l e R s m args below meth c H locs cells slots Q (F0 m (pc + 1) ls (.int (nI (a / b)) :: rest))) : W p l e R s m args below meth c H locs cells slots Q (F0 m pc ls (.int (nI b) :: .int (nI a) :: rest)) := by
  refine lv_idiv hx hb d (nI_ne0 h0 h2) ?_
  rw [pk_div h1 h0 h2]
  exact k
theorem zo_rem (hx : p.tables.exec = Jvm.exec) (hb : c.code = cc) {a b : Nat} (h0 : 0 < b) (h1 : a < 2 ^ 31) (h2 : b < 2 ^ 31) (d : decode cc pc = .ok (.irem, 1)) (k : W p l e R s m args below meth c H locs cells slots Q (F0 m (pc + 1) ls (.int (nI (a % b)) :: rest))) : W p l e R s m args below meth c H locs cells slots Q (F0 m pc ls (.int (nI b) :: .int (nI a) :: rest)) := by
  refine lv_irem hx hb d (nI_ne0 h0 h2) ?_
  rw [pk_rem h1 h0 h2]
  exact k
theorem zc_eq (hx : p.tables.exec = Jvm.exec) (hb : c.code = cc) {a b : Nat} (ha : a < 2 ^ 31) (hb2 : b < 2 ^ 31) {off : Int} {tgt : Nat} (d : decode cc pc = .ok (.if_icmp .eq off, 3)) (ht : (pc : Int) + off = (tgt : Int)) (kt : a = b → W p l e R s m args below meth c H locs cells slots Q (F0 m tgt ls rest)) (kf : ¬ (a = b) → W p l e R s m args below meth c H locs cells slots Q (F0 m (pc + 3) ls rest)) : W p l e R s m args below meth c H locs cells slots Q (F0 m pc ls (.int (nI b) :: .int (nI a) :: rest)) := by
  exact lv_icmp_eq hx hb d ht (fun h => kt ((nI_eq ha hb2).mp h)) (fun h => kf (fun q => h ((nI_eq ha hb2).mpr q)))
theorem zc_ne (hx : p.tables.exec = Jvm.exec) (hb : c.code = cc) {a b : Nat} (ha : a < 2 ^ 31) (hb2 : b < 2 ^ 31) {off : Int} {tgt : Nat} (d : decode cc pc = .ok (.if_icmp .ne off, 3)) (ht : (pc : Int) + off = (tgt : Int)) (kt : ¬ a = b → W p l e R s m args below meth c H locs cells slots Q (F0 m tgt ls rest)) (kf : a = b → W p l e R s m args below meth c H locs cells slots Q (F0 m (pc + 3) ls rest)) : W p l e R s m args below meth c H locs cells slots Q (F0 m pc ls (.int (nI b) :: .int (nI a) :: rest)) := by
  exact lv_icmp_ne hx hb d ht (fun h => kt (fun q => h (by rw [q]))) (fun h => kf ((nI_eq ha hb2).mp h))
theorem zc_lt (hx : p.tables.exec = Jvm.exec) (hb : c.code = cc) {a b : Nat} (ha : a < 2 ^ 31) (hb2 : b < 2 ^ 31) {off : Int} {tgt : Nat} (d : decode cc pc = .ok (.if_icmp .lt off, 3)) (ht : (pc : Int) + off = (tgt : Int)) (kt : a < b → W p l e R s m args below meth c H locs cells slots Q (F0 m tgt ls rest)) (kf : ¬ (a < b) → W p l e R s m args below meth c H locs cells slots Q (F0 m (pc + 3) ls rest)) : W p l e R s m args below meth c H locs cells slots Q (F0 m pc ls (.int (nI b) :: .int (nI a) :: rest)) := by
  exact lv_icmp_lt hx hb d ht (fun h => kt ((nI_ltI ha hb2).mp h)) (fun h => kf (fun q => h ((nI_ltI ha hb2).mpr q)))
theorem zc_ge (hx : p.tables.exec = Jvm.exec) (hb : c.code = cc) {a b : Nat} (ha : a < 2 ^ 31) (hb2 : b < 2 ^ 31) {off : Int} {tgt : Nat} (d : decode cc pc = .ok (.if_icmp .ge off, 3)) (ht : (pc : Int) + off = (tgt : Int)) (kt : b ≤ a → W p l e R s m args below meth c H locs cells slots Q (F0 m tgt ls rest)) (kf : ¬ (b ≤ a) → W p l e R s m args below meth c H locs cells slots Q (F0 m (pc + 3) ls rest)) : W p l e R s m args below meth c H locs cells slots Q (F0 m pc ls (.int (nI b) :: .int (nI a) :: rest)) := by
  exact lv_icmp_ge hx hb d ht (fun h => kt ((nI_leI hb2 ha).mp h)) (fun h => kf (fun q => h ((nI_leI hb2 ha).mpr q)))
theorem zc_gt (hx : p.tables.exec = Jvm.exec) (hb : c.code = cc) {a b : Nat} (ha : a < 2 ^ 31) (hb2 : b < 2 ^ 31) {off : Int} {tgt : Nat} (d : decode cc pc = .ok (.if_icmp .gt off, 3)) (ht : (pc : Int) + off = (tgt : Int)) (kt : b < a → W p l e R s m args below meth c H locs cells slots Q (F0 m tgt ls rest)) (kf : ¬ (b < a) → W p l e R s m args below meth c H locs cells slots Q (F0 m (pc + 3) ls rest)) : W p l e R s m args below meth c H locs cells slots Q (F0 m pc ls (.int (nI b) :: .int (nI a) :: rest)) := by
  exact lv_icmp_gt hx hb d ht (fun h => kt ((nI_ltI hb2 ha).mp h)) (fun h => kf (fun q => h ((nI_ltI hb2 ha).mpr q)))
theorem zc_le (hx : p.tables.exec = Jvm.exec) (hb : c.code = cc) {a b : Nat} (ha : a < 2 ^ 31) (hb2 : b < 2 ^ 31) {off : Int} {tgt : Nat} (d : decode cc pc = .ok (.if_icmp .le off, 3)) (ht : (pc : Int) + off = (tgt : Int)) (kt : a ≤ b → W p l e R s m args below meth c H locs cells slots Q (F0 m tgt ls rest)) (kf : ¬ (a ≤ b) → W p l e R s m args below meth c H locs cells slots Q (F0 m (pc + 3) ls rest)) : W p l e R s m args below meth c H locs cells slots Q (F0 m pc ls (.int (nI b) :: .int (nI a) :: rest)) := by
  exact lv_icmp_le hx hb d ht (fun h => kt ((nI_leI ha hb2).mp h)) (fun h => kf (fun q => h ((nI_leI ha hb2).mpr q)))
theorem zf_eq (hx : p.tables.exec = Jvm.exec) (hb : c.code = cc) {a : Nat} (ha : a < 2 ^ 31) {off : Int} {tgt : Nat} (d : decode cc pc = .ok (.ifCond .eq off, 3)) (ht : (pc : Int) + off = (tgt : Int)) (kt : a = 0 → W p l e R s m args below meth c H locs cells slots Q (F0 m tgt ls rest)) (kf : ¬ a = 0 → W p l e R s m args below meth c H locs cells slots Q (F0 m (pc + 3) ls rest)) : W p l e R s m args below meth c H locs cells slots Q (F0 m pc ls (.int (nI a) :: rest)) := by
  exact lv_if_eq hx hb d ht (fun h => kt ((nI_eq ha (by decide)).mp (h.trans nI_0.symm))) (fun h => kf (fun q => h (by rw [q]; exact nI_0)))
theorem zf_ne (hx : p.tables.exec = Jvm.exec) (hb : c.code = cc) {a : Nat} (ha : a < 2 ^ 31) {off : Int} {tgt : Nat} (d : decode cc pc = .ok (.ifCond .ne off, 3)) (ht : (pc : Int) + off = (tgt : Int)) (kt : ¬ a = 0 → W p l e R s m args below meth c H locs cells slots Q (F0 m tgt ls rest)) (kf : a = 0 → W p l e R s m args below meth c H locs cells slots Q (F0 m (pc + 3) ls rest)) : W p l e R s m args below meth c H locs cells slots Q (F0 m pc ls (.int (nI a) :: rest)) := by
  exact lv_if_ne hx hb d ht (fun h => kt (fun q => h (by rw [q]; exact nI_0))) (fun h => kf ((nI_eq ha (by decide)).mp (h.trans nI_0.symm)))
theorem zf_le (hx : p.tables.exec = Jvm.exec) (hb : c.code = cc) {a : Nat} (ha : a < 2 ^ 31) {off : Int} {tgt : Nat} (d : decode cc pc = .ok (.ifCond .le off, 3)) (ht : (pc : Int) + off = (tgt : Int)) (kt : a = 0 → W p l e R s m args below meth c H locs cells slots Q (F0 m tgt ls rest)) (kf : 0 < a → W p l e R s m args below meth c H locs cells slots Q (F0 m (pc + 3) ls rest)) : W p l e R s m args below meth c H locs cells slots Q (F0 m pc ls (.int (nI a) :: rest)) := by
  exact lv_if_le hx hb d ht (fun h => kt (Nat.le_zero.mp ((nI_leI ha (by decide)).mp (by rw [nI_0]; exact h)))) (fun h => kf (Nat.pos_of_ne_zero (fun q => h (by rw [q, nI_0]; decide))))
theorem zf_gt (hx : p.tables.exec = Jvm.exec) (hb : c.code = cc) {a : Nat} (ha : a < 2 ^ 31) {off : Int} {tgt : Nat} (d : decode cc pc = .ok (.ifCond .gt off, 3)) (ht : (pc : Int) + off = (tgt : Int)) (kt : 0 < a → W p l e R s m args below meth c H locs cells slots Q (F0 m tgt ls rest)) (kf : a = 0 → W p l e R s m args below meth c H locs cells slots Q (F0 m (pc + 3) ls rest)) : W p l e R s m args below meth c H locs cells slots Q (F0 m pc ls (.int (nI a) :: rest)) := by
  exact lv_if_gt hx hb d ht (fun h => kt (Nat.pos_of_ne_zero (fun q => absurd h (by rw [q, nI_0]; decide)))) (fun h => kf (Decidable.byContradiction (fun q => h (by rw [← nI_0]; exact nI_lt (Nat.pos_of_ne_zero q) ha))))
theorem zf_lt (hx : p.tables.exec = Jvm.exec) (hb : c.code = cc) {a : Nat} (ha : a < 2 ^ 31) {off : Int} {tgt : Nat} (d : decode cc pc = .ok (.ifCond .lt off, 3)) (ht : (pc : Int) + off = (tgt : Int)) (kf : W p l e R s m args below meth c H locs cells slots Q (F0 m (pc + 3) ls rest)) : W p l e R s m args below meth c H locs cells slots Q (F0 m pc ls (.int (nI a) :: rest)) := by
  exact lv_if_lt hx hb d ht (fun h => absurd h (nI_pos ha)) (fun _ => kf)
theorem zf_ge (hx : p.tables.exec = Jvm.exec) (hb : c.code = cc) {a : Nat} (ha : a < 2 ^ 31) {off : Int} {tgt : Nat} (d : decode cc pc = .ok (.ifCond .ge off, 3)) (ht : (pc : Int) + off = (tgt : Int)) (kt : W p l e R s m args below meth c H locs cells slots Q (F0 m tgt ls rest)) : W p l e R s m args below meth c H locs cells slots Q (F0 m pc ls (.int (nI a) :: rest)) := by
  exact lv_if_ge hx hb d ht (fun _ => kt) (fun h => absurd (nI_pos' ha) h)
theorem zb_eq (hx : p.tables.exec = Jvm.exec) (hb : c.code = cc) {b : Bool} {off : Int} {tgt : Nat} (d : decode cc pc = .ok (.ifCond .eq off, 3)) (ht : (pc : Int) + off = (tgt : Int)) (kt : b = false → W p l e R s m args below meth c H locs cells slots Q (F0 m tgt ls rest)) (kf : b = true → W p l e R s m args below meth c H locs cells slots Q (F0 m (pc + 3) ls rest)) : W p l e R s m args below meth c H locs cells slots Q (F0 m pc ls (.int (bI b) :: rest)) := by
  exact lv_if_eq hx hb d ht (fun h => kt (bI_eq0.mp h)) (fun h => kf (bI_ne0.mp h))
theorem zb_ne (hx : p.tables.exec = Jvm.exec) (hb : c.code = cc) {b : Bool} {off : Int} {tgt : Nat} (d : decode cc pc = .ok (.ifCond .ne off, 3)) (ht : (pc : Int) + off = (tgt : Int)) (kt : b = true → W p l e R s m args below meth c H locs cells slots Q (F0 m tgt ls rest)) (kf : b = false → W p l e R s m args below meth c H locs cells slots Q (F0 m (pc + 3) ls rest)) : W p l e R s m args below meth c H locs cells slots Q (F0 m pc ls (.int (bI b) :: rest)) := by
  exact lv_if_ne hx hb d ht (fun h => kt (bI_ne0.mp h)) (fun h => kf (bI_eq0.mp h))
end ZL
end
section
/-! the private links of the nest, and what a walk knows of the tables -/
def zN : List Cond := [.methodLinkNest RX4 30 yX1_init "TapeRobotics", .methodLinkNest RX4 37 yX2_init "TapeRobotics", .methodLinkNest RX4 72 yX3_isInDrive "TapeRobotics", .methodLinkNest RX4 180 yX1_countAt "TapeRobotics", .methodLinkNest RX1 32 yX4_at "TapeRobotics", .methodLinkNest RX4 190 yX1_earliestDeadlineAt "TapeRobotics", .methodLinkNest RX4 60 yX3_init "TapeRobotics", .methodLinkNest RX4 95 yX3_beginOf "TapeRobotics", .methodLinkNest RX3 38 yX4_at "TapeRobotics", .methodLinkNest RX4 99 yX3_places "TapeRobotics", .methodLinkNest RX4 104 yX3_distanceAlong "TapeRobotics", .methodLinkNest RX4 111 yX0_init "TapeRobotics", .methodLinkNest RX4 134 yX0_robotTime "TapeRobotics", .methodLinkNest RX4 137 yX0_spend "TapeRobotics", .methodLinkNest RX4 144 yX0_wayTime "TapeRobotics", .methodLinkNest RX0 40 yX3_distanceAlong "TapeRobotics", .methodLinkNest RX0 45 yX3_trackOf "TapeRobotics", .methodLinkNest RX4 219 yX0_wantsCleaning "TapeRobotics", .methodLinkNest RX4 154 yX3_hasRoomFor "TapeRobotics", .methodLinkNest RX4 159 yX3_append "TapeRobotics", .methodLinkNest RX3 50 yX4_put "TapeRobotics", .methodLinkNest RX4 162 yX0_passFile "TapeRobotics", .methodLinkNest RX0 48 yX3_beginOf "TapeRobotics", .methodLinkNest RX0 55 yX3_endOf "TapeRobotics", .methodLinkNest RX4 185 yX1_enter "TapeRobotics", .methodLinkNest RX1 28 yX4_put "TapeRobotics", .methodLinkNest RX4 253 yX2_measure "TapeRobotics", .methodLinkNest RX2 36 yX1_collectAt "TapeRobotics", .methodLinkNest RX2 42 yX4_at "TapeRobotics", .methodLinkNest RX2 46 yX1_fileOf "TapeRobotics", .methodLinkNest RX2 55 yX0_fileTime "TapeRobotics", .methodLinkNest RX2 59 yX4_put "TapeRobotics", .methodLinkNest RX2 63 yX3_endOf "TapeRobotics", .methodLinkNest RX4 196 yX2_findBest "TapeRobotics", .methodLinkNest RX4 204 yX2_timeOf "TapeRobotics", .methodLinkNest RX4 210 yX2_bestJobAt "TapeRobotics", .methodLinkNest RX4 213 yX2_timeByInsertion "TapeRobotics", .methodLinkNest RX4 216 yX2_timeByTrying "TapeRobotics", .methodLinkNest RX4 222 yX1_fileOf "TapeRobotics", .methodLinkNest RX4 225 yX1_finish "TapeRobotics", .methodLinkNest RX4 229 yX1_deadlineOf "TapeRobotics", .fieldLinkNest RX4 177 RX1 "count" "I" "TapeRobotics", .fieldLinkNest RX4 232 RX1 "doneCount" "I" "TapeRobotics", .fieldLinkNest RX4 203 RX2 "count" "I" "TapeRobotics", .fieldLinkNest RX4 199 RX2 "best" "[I" "TapeRobotics", .fieldLinkNest RX2 31 RX3 "number" "I" "TapeRobotics", .fieldLinkNest RX4 189 RX3 "number" "I" "TapeRobotics", .fieldLinkNest RX4 82 RX3 "slot" "I" "TapeRobotics", .fieldLinkNest RX4 85 RX3 "driveNumber" "I" "TapeRobotics", .fieldLinkNest RX4 122 RX3 "hasLabel" "Z" "TapeRobotics", .fieldLinkNest RX4 88 RX3 "fileCount" "I" "TapeRobotics", .fieldLinkNest RX4 131 RX0 "number" "I" "TapeRobotics", .fieldLinkNest RX4 118 RX0 "mounted" "LTapeRobotics$Tape;" "TapeRobotics", .fieldLinkNest RX2 50 RX0 "place" "I" "TapeRobotics", .fieldLinkNest RX4 128 RX0 "place" "I" "TapeRobotics", .fieldLinkNest RX4 171 RX0 "time" "I" "TapeRobotics", .fieldLinkNest RX4 168 RX0 "filesSinceCleaning" "I" "TapeRobotics"]
def zNw (w : Cond) : Bool := match w with
  | .methodLinkNest _ _ _ _ => true
  | .fieldLinkNest _ _ _ _ _ _ => true
  | _ => false
set_option maxRecDepth 20000 in
theorem zN_ok : zN.all zNw = true := by decide +kernel
set_option maxRecDepth 20000 in
theorem zN_tbl : ∀ w ∈ zN, w ∈ lw_tbl := by decide +kernel
theorem zN_warm {w : Cond} {s U : State} (h : zNw w = true) (hW : s.WarmedH U.vm) (hZ : va_Nw w s) : va_Nw w U := by
  cases w with
  | methodLinkNest a b c d => exact va_Nw.warmM hW hZ
  | fieldLinkNest a b c d e f => exact va_Nw.warmF hW hZ
  | _ => cases h
theorem zN_same {w : Cond} {s U : State} (h : zNw w = true) (hv : s.vm = U.vm) (hZ : va_Nw w s) : va_Nw w U := by
  cases w with
  | methodLinkNest a b c d => exact va_Nw.same rfl hv hZ
  | fieldLinkNest a b c d e f => exact va_Nw.same rfl hv hZ
  | _ => cases h
/-- the array classes: of ints, tapes, drives, booleans, longs -/
abbrev zt (cA : Nat → ClassId) : List (ClassId × FieldType) := [(cA 0, .int), (cA 1, .object "TapeRobotics$Tape"), (cA 2, .object "TapeRobotics$Drive"), (cA 3, .boolean), (cA 4, .long)]
def zK (D : va_G) (cA : Nat → ClassId) (U : State) : Prop := va_K D vwCl (zt cA) U ∧ ∀ w ∈ zN, va_Nw w U
theorem zK.warm {D : va_G} {cA : Nat → ClassId} {s U : State} (h : zK D cA s) (hW : s.WarmedH U.vm) : zK D cA U :=
  ⟨va_K.moved hW.alike h.1, fun w hw => zN_warm (List.all_eq_true.mp zN_ok w hw) hW (h.2 w hw)⟩
theorem zK.same {D : va_G} {cA : Nat → ClassId} {s U : State} (h : zK D cA s) (hv : s.vm = U.vm) : zK D cA U :=
  ⟨va_K.moved (by rw [hv]; exact Vm.Alike.refl U.vm) h.1, fun w hw => zN_same (List.all_eq_true.mp zN_ok w hw) hv (h.2 w hw)⟩
/-- a start that reads a world -/
def zS (D : va_G) (cA : Nat → ClassId) (ws : va_W) (U : State) : Prop := zK D cA U ∧ va_P D vwCl ws U.heap
/-- a start that may write one -/
def zM (D : va_G) (cA : Nat → ClassId) (ws : va_W) (sz : Nat) (U : State) : Prop := zK D cA U ∧ va_P D vwCl ws U.heap ∧ va_D (fun _ => True) ws ∧ U.heap.size = sz
/-- a world behind a method -/
def zB (D : va_G) (A : Nat → Prop) (ws : va_W) (t : State) : Prop := va_P D vwCl ws t.heap ∧ va_D A ws
abbrev zF : Addr → Prop := fun _ => False
theorem zS_blind {D : va_G} {cA : Nat → ClassId} {ws : va_W} {av : List Value} : FrameBlind (va_Pc av (zS D cA ws)) := fun a U g mk q => ⟨q.1, q.2.1.same rfl, q.2.2⟩
theorem zM_blind {D : va_G} {cA : Nat → ClassId} {ws : va_W} {sz : Nat} {av : List Value} : FrameBlind (va_Pc av (zM D cA ws sz)) := fun a U g mk q => ⟨q.1, q.2.1.same rfl, q.2.2.1, q.2.2.2.1, q.2.2.2.2⟩
theorem zM_of {D : va_G} {cA : Nat → ClassId} {ws : va_W} {A : Nat → Prop} {H : Heap} {s U : State} (hZ : zK D cA s) (hP : va_P D vwCl ws H) (hD : va_D A ws) (hU : U.heap = H) (hW : s.WarmedH U.vm) : zM D cA ws H.size U := ⟨hZ.warm hW, by rw [hU]; exact hP, hD.weaken (fun _ _ _ _ => trivial), by rw [hU]⟩
/-- the callee's cells are the caller's -/
theorem z_free {A0 : Nat → Prop} {ws : va_W} {H0 H : Heap} {locs : List Loc} (hD : va_D A0 ws) (hS : va_S A0 H0 H locs) (hA : ∀ q, H0.size ≤ q → A0 q) : ∀ q, va_A ws H.size q → A0 q := by
  intro q h
  rcases h with ⟨k, e, h⟩ | h
  · exact hD.2 k (q, e) h
  · exact hA q (Nat.le_trans hS.1 h)
/-- a body, opened -/
theorem zOpen {l : Launch} {y : MethodName} {ws ws' : List Cond} {rm : Room} {Qc : Array Value → State → Outcome → State → Prop} {mc ms : Nat} {free : Addr → Prop} {cc : ByteArray} {maxL : Nat} {ret : Option FieldType} {own : String} {av : List Value} {B : State → Prop}
    (hy : plainName y.cls = true) (hw : ws = Cond.code y cc maxL ret :: ws') (ho : y.cls = own) (hn : (lg_sl av).length ≤ maxL)
    (body : ∀ (p : Program) (e : Env) (s : State) (m : MethodId) (below : List Frame) (meth : Method) (c : Code) (ls : Array Slot), p.tables.exec = Jvm.exec → c.code = cc → meth.sig.returnType = ret → c.maxLocals = maxL → (∀ w ∈ ws, w.before av.toArray s = true) → s.vm.findClass own = some m.cls → meth.locks = false → meth.name = y.name → B s → lv_has ls maxL (lv_args 0 av) → W p l e rm s m av.toArray below meth c s.heap [] 0 0 (MQ below Qc av.toArray s mc ms free) (F0 m 0 ls [])) :
    Met l y ws rm (va_Pc av B) Qc mc ms free := by
  refine Met.ofW (cc := cc) (maxL := maxL) (ret := ret) hy hw ?_
  intro p e s m args below meth c s₁ B0 hml hv
  obtain ⟨rfl, hv⟩ := hv
  rw [lg_entry_eq]
  exact body p e s m below meth c _ B0.exec B0.bytes B0.returns hml (atoms_spec (ws := ws) B0.pre) (ho ▸ findClass_of_methodNamed B0.named) B0.notSynchronized (name_of_methodNamed B0.named B0.method).1 hv (lv_entry av hn)
theorem zOpenX {l : Launch} {y : MethodName} {ws ws' : List Cond} {rm : Room} {Qc : Array Value → State → Outcome → State → Prop} {XC : String → State → State → Prop} {mc ms : Nat} {free : Addr → Prop} {cc : ByteArray} {maxL : Nat} {ret : Option FieldType} {own : String} {av : List Value} {B : State → Prop}
    (hy : plainName y.cls = true) (hw : ws = Cond.code y cc maxL ret :: ws') (ho : y.cls = own) (hn : (lg_sl av).length ≤ maxL)
    (body : ∀ (p : Program) (e : Env) (s : State) (m : MethodId) (below : List Frame) (meth : Method) (c : Code) (ls : Array Slot), p.tables.exec = Jvm.exec → c.code = cc → meth.sig.returnType = ret → c.maxLocals = maxL → (∀ w ∈ ws, w.before av.toArray s = true) → s.vm.findClass own = some m.cls → meth.locks = false → (∀ x ∈ c.exceptionTable.toList, False) → B s → lv_has ls maxL (lv_args 0 av) → W p l e rm s m av.toArray below meth c s.heap [] 0 0 (vx_MQ below Qc XC av.toArray s mc ms free) (F0 m 0 ls [])) :
    vx_Met l y ws rm (va_Pc av B) Qc XC mc ms free := by
  refine vx_ofW (cc := cc) (maxL := maxL) (ret := ret) hy hw ?_
  intro p e s m args below meth c s₁ B0 hml ht hv
  obtain ⟨rfl, hv⟩ := hv
  rw [lg_entry_eq]
  exact body p e s m below meth c _ B0.exec B0.bytes B0.returns hml (atoms_spec (ws := ws) B0.pre) (ho ▸ findClass_of_methodNamed B0.named) B0.notSynchronized ht hv (lv_entry av hn)
section ZC
variable {p : Program} {l : Launch} {e : Env} {R : Room} {s : State} {m : MethodId} {args : Array Value} {below : List Frame} {meth : Method} {c : Code} {H : Heap} {locs : List Loc} {cells slots : Nat} {Q : State → Prop}
variable {cc : ByteArray} {pc : Nat} {ls : Array Slot} {rest st0 As : List Value} {own C T9 host : String} {index maxL n nL q0 ci N b : Nat} {y : MethodName} {bytes : ByteArray} {ret : Option FieldType} {Ts wsC wsC' : List Cond} {rm : Room} {D : va_G} {cA : Nat → ClassId} {ws : va_W} {fs : List Value} {T : u_T}
abbrev zCall (y : MethodName) (n : Nat) (R : Room) (rm : Room) (maxL : Nat) : Prop := (y.cls ≠ "java/lang/invoke/MethodHandle" ∧ y.cls ≠ "java/lang/invoke/VarHandle" ∧ (parseMethodDescriptor y.desc).map (fun d => d.parameters.length) = some n) ∧ rm.frames + 1 ≤ R.frames ∧ 8 + (maxL + 11) + rm.locals ≤ R.locals

theorem zk_VN_i (hx : p.tables.exec = Jvm.exec) (hb : c.code = cc) (hml : c.maxLocals = nL) (hts : ∀ w ∈ Ts, w.before args s = true) (hown : s.vm.findClass own = some m.cls) (hZ : zK D cA s) (hP : va_P D vwCl ws H) {post : Int32 → Prop} (hM : Met l y wsC rm (va_Pc (.ref b :: As) (zS D cA ws)) (vp_Si post) 0 0 zF) (hG : GoodIn Ts wsC) (hl : Cond.methodLinkNest own index y host ∈ zN) (hi : ∀ w ∈ [Cond.initialized y.cls, Cond.instanceMethod y, Cond.selects C y y], w ∈ Ts) (hw : wsC = Cond.code y bytes maxL ret :: wsC') (hrm : rm.cells = 0 ∧ rm.slots = 0) (hd : zCall y n R rm maxL) (hq : ws[q0]? = some (b, .inr (ci, fs))) (hc : vwCl[ci]? = some (C, T, N)) (hsz : ls.size = nL) (hst : st0 = As.reverse ++ .ref b :: rest) (hcat : (rest.map fun v => v.category).sum ≤ 8) (hf : cells ≤ R.cells ∧ slots ≤ R.slots) (hn : As.length = n) (d : decode cc pc = .ok (.invokevirtual index, 3)) (kk : ∀ r : Int32, post r → W p l e R s m args below meth c H locs cells slots Q (F0 m (pc + 3) ls (.int r :: rest))) : W p l e R s m args below meth c H locs cells slots Q (F0 m pc ls st0) := by
  exact vp_callSi (va_Run.run (va_runVN (As := As) (rest := rest) ⟨hx, hb, hml, hown, hts⟩ hM ⟨va_cnB n hts hG hw hrm.1 hrm.2 (hZ.2 _ hl) (hts _ (hi _ (by simp))) hd.1 hd.2, hts _ (hi _ (by simp)), hts _ (hi _ (by simp))⟩ ⟨zS_blind, va_recv hZ.1 hP hc hq, fun U hU hW => ⟨rfl, hZ.warm hW, by rw [hU]; exact hP⟩⟩ rfl hn hsz hst (lv_room hcat) d ⟨by omega, by omega⟩)) kk
theorem zk_V_i (hx : p.tables.exec = Jvm.exec) (hb : c.code = cc) (hml : c.maxLocals = nL) (hts : ∀ w ∈ Ts, w.before args s = true) (hown : s.vm.findClass own = some m.cls) (hZ : zK D cA s) (hP : va_P D vwCl ws H) {post : Int32 → Prop} (hM : Met l y wsC rm (va_Pc (.ref b :: As) (zS D cA ws)) (vp_Si post) 0 0 zF) (hG : GoodIn Ts (wsV own index C y wsC)) (hy : y.cls = C) (hw : wsC = Cond.code y bytes maxL ret :: wsC') (hrm : rm.cells = 0 ∧ rm.slots = 0) (hd : zCall y n R rm maxL) (hq : ws[q0]? = some (b, .inr (ci, fs))) (hc : vwCl[ci]? = some (C, T, N)) (hsz : ls.size = nL) (hst : st0 = As.reverse ++ .ref b :: rest) (hcat : (rest.map fun v => v.category).sum ≤ 8) (hf : cells ≤ R.cells ∧ slots ≤ R.slots) (hn : As.length = n) (d : decode cc pc = .ok (.invokevirtual index, 3)) (kk : ∀ r : Int32, post r → W p l e R s m args below meth c H locs cells slots Q (F0 m (pc + 3) ls (.int r :: rest))) : W p l e R s m args below meth c H locs cells slots Q (F0 m pc ls st0) := by
  exact vp_callSi (va_Run.run (va_runV (As := As) (rest := rest) ⟨hx, hb, hml, hown, hts⟩ hM (cwV n hts hG hw hrm.1 hrm.2 ⟨hy, hd.1⟩ hd.2) ⟨zS_blind, va_recv hZ.1 hP hc hq, fun U hU hW => ⟨rfl, hZ.warm hW, by rw [hU]; exact hP⟩⟩ rfl hn hsz hst (lv_room hcat) d ⟨by omega, by omega⟩)) kk
theorem zk_S_i (hx : p.tables.exec = Jvm.exec) (hb : c.code = cc) (hml : c.maxLocals = nL) (hts : ∀ w ∈ Ts, w.before args s = true) (hown : s.vm.findClass own = some m.cls) (hZ : zK D cA s) (hP : va_P D vwCl ws H) {post : Int32 → Prop} (hM : Met l y wsC rm (va_Pc As (zS D cA ws)) (vp_Si post) 0 0 zF) (hG : GoodIn Ts (va_wsS own index y wsC)) (hw : wsC = Cond.code y bytes maxL ret :: wsC') (hrm : rm.cells = 0 ∧ rm.slots = 0) (hd : zCall y n R rm maxL) (hsz : ls.size = nL) (hst : st0 = As.reverse ++ rest) (hcat : (rest.map fun v => v.category).sum ≤ 8) (hf : cells ≤ R.cells ∧ slots ≤ R.slots) (hn : As.length = n) (d : decode cc pc = .ok (.invokestatic index, 3)) (kk : ∀ r : Int32, post r → W p l e R s m args below meth c H locs cells slots Q (F0 m (pc + 3) ls (.int r :: rest))) : W p l e R s m args below meth c H locs cells slots Q (F0 m pc ls st0) := by
  exact vp_callSi (va_Run.run (va_runS (As := As) (rest := rest) ⟨hx, hb, hml, hown, hts⟩ hM (va_cwS n hts hG hw hrm.1 hrm.2 hd.1 hd.2) ⟨zS_blind, fun U hU hW => ⟨rfl, hZ.warm hW, by rw [hU]; exact hP⟩⟩ rfl hn hsz hst (lv_room hcat) d ⟨by omega, by omega⟩)) kk
theorem zk_SN_i (hx : p.tables.exec = Jvm.exec) (hb : c.code = cc) (hml : c.maxLocals = nL) (hts : ∀ w ∈ Ts, w.before args s = true) (hown : s.vm.findClass own = some m.cls) (hZ : zK D cA s) (hP : va_P D vwCl ws H) {post : Int32 → Prop} (hM : Met l y wsC rm (va_Pc As (zS D cA ws)) (vp_Si post) 0 0 zF) (hG : GoodIn Ts wsC) (hl : Cond.methodLinkNest own index y host ∈ zN) (hi : ∀ w ∈ [Cond.initialized y.cls, Cond.static y], w ∈ Ts) (hw : wsC = Cond.code y bytes maxL ret :: wsC') (hrm : rm.cells = 0 ∧ rm.slots = 0) (hd : zCall y n R rm maxL) (hsz : ls.size = nL) (hst : st0 = As.reverse ++ rest) (hcat : (rest.map fun v => v.category).sum ≤ 8) (hf : cells ≤ R.cells ∧ slots ≤ R.slots) (hn : As.length = n) (d : decode cc pc = .ok (.invokestatic index, 3)) (kk : ∀ r : Int32, post r → W p l e R s m args below meth c H locs cells slots Q (F0 m (pc + 3) ls (.int r :: rest))) : W p l e R s m args below meth c H locs cells slots Q (F0 m pc ls st0) := by
  exact vp_callSi (va_Run.run (va_runSN (As := As) (rest := rest) ⟨hx, hb, hml, hown, hts⟩ hM ⟨va_cnB n hts hG hw hrm.1 hrm.2 (hZ.2 _ hl) (hts _ (hi _ (by simp))) hd.1 hd.2, hts _ (hi _ (by simp)), trivial⟩ ⟨zS_blind, fun U hU hW => ⟨rfl, hZ.warm hW, by rw [hU]; exact hP⟩⟩ rfl hn hsz hst (lv_room hcat) d ⟨by omega, by omega⟩)) kk
theorem zk_VN_q (hx : p.tables.exec = Jvm.exec) (hb : c.code = cc) (hml : c.maxLocals = nL) (hts : ∀ w ∈ Ts, w.before args s = true) (hown : s.vm.findClass own = some m.cls) (hZ : zK D cA s) (hP : va_P D vwCl ws H) {post : Option Nat → Prop} (hM : Met l y wsC rm (va_Pc (.ref b :: As) (zS D cA ws)) (va_Sq post) 0 0 zF) (hG : GoodIn Ts wsC) (hl : Cond.methodLinkNest own index y host ∈ zN) (hi : ∀ w ∈ [Cond.initialized y.cls, Cond.instanceMethod y, Cond.selects C y y], w ∈ Ts) (hw : wsC = Cond.code y bytes maxL ret :: wsC') (hrm : rm.cells = 0 ∧ rm.slots = 0) (hd : zCall y n R rm maxL) (hq : ws[q0]? = some (b, .inr (ci, fs))) (hc : vwCl[ci]? = some (C, T, N)) (hsz : ls.size = nL) (hst : st0 = As.reverse ++ .ref b :: rest) (hcat : (rest.map fun v => v.category).sum ≤ 8) (hf : cells ≤ R.cells ∧ slots ≤ R.slots) (hn : As.length = n) (d : decode cc pc = .ok (.invokevirtual index, 3)) (kk : ∀ r : Option Nat, post r → W p l e R s m args below meth c H locs cells slots Q (F0 m (pc + 3) ls (va_rf r :: rest))) : W p l e R s m args below meth c H locs cells slots Q (F0 m pc ls st0) := by
  exact va_csq (va_Run.run (va_runVN (As := As) (rest := rest) ⟨hx, hb, hml, hown, hts⟩ hM ⟨va_cnB n hts hG hw hrm.1 hrm.2 (hZ.2 _ hl) (hts _ (hi _ (by simp))) hd.1 hd.2, hts _ (hi _ (by simp)), hts _ (hi _ (by simp))⟩ ⟨zS_blind, va_recv hZ.1 hP hc hq, fun U hU hW => ⟨rfl, hZ.warm hW, by rw [hU]; exact hP⟩⟩ rfl hn hsz hst (lv_room hcat) d ⟨by omega, by omega⟩)) kk
theorem zk_V_q (hx : p.tables.exec = Jvm.exec) (hb : c.code = cc) (hml : c.maxLocals = nL) (hts : ∀ w ∈ Ts, w.before args s = true) (hown : s.vm.findClass own = some m.cls) (hZ : zK D cA s) (hP : va_P D vwCl ws H) {post : Option Nat → Prop} (hM : Met l y wsC rm (va_Pc (.ref b :: As) (zS D cA ws)) (va_Sq post) 0 0 zF) (hG : GoodIn Ts (wsV own index C y wsC)) (hy : y.cls = C) (hw : wsC = Cond.code y bytes maxL ret :: wsC') (hrm : rm.cells = 0 ∧ rm.slots = 0) (hd : zCall y n R rm maxL) (hq : ws[q0]? = some (b, .inr (ci, fs))) (hc : vwCl[ci]? = some (C, T, N)) (hsz : ls.size = nL) (hst : st0 = As.reverse ++ .ref b :: rest) (hcat : (rest.map fun v => v.category).sum ≤ 8) (hf : cells ≤ R.cells ∧ slots ≤ R.slots) (hn : As.length = n) (d : decode cc pc = .ok (.invokevirtual index, 3)) (kk : ∀ r : Option Nat, post r → W p l e R s m args below meth c H locs cells slots Q (F0 m (pc + 3) ls (va_rf r :: rest))) : W p l e R s m args below meth c H locs cells slots Q (F0 m pc ls st0) := by
  exact va_csq (va_Run.run (va_runV (As := As) (rest := rest) ⟨hx, hb, hml, hown, hts⟩ hM (cwV n hts hG hw hrm.1 hrm.2 ⟨hy, hd.1⟩ hd.2) ⟨zS_blind, va_recv hZ.1 hP hc hq, fun U hU hW => ⟨rfl, hZ.warm hW, by rw [hU]; exact hP⟩⟩ rfl hn hsz hst (lv_room hcat) d ⟨by omega, by omega⟩)) kk
theorem zk_S_q (hx : p.tables.exec = Jvm.exec) (hb : c.code = cc) (hml : c.maxLocals = nL) (hts : ∀ w ∈ Ts, w.before args s = true) (hown : s.vm.findClass own = some m.cls) (hZ : zK D cA s) (hP : va_P D vwCl ws H) {post : Option Nat → Prop} (hM : Met l y wsC rm (va_Pc As (zS D cA ws)) (va_Sq post) 0 0 zF) (hG : GoodIn Ts (va_wsS own index y wsC)) (hw : wsC = Cond.code y bytes maxL ret :: wsC') (hrm : rm.cells = 0 ∧ rm.slots = 0) (hd : zCall y n R rm maxL) (hsz : ls.size = nL) (hst : st0 = As.reverse ++ rest) (hcat : (rest.map fun v => v.category).sum ≤ 8) (hf : cells ≤ R.cells ∧ slots ≤ R.slots) (hn : As.length = n) (d : decode cc pc = .ok (.invokestatic index, 3)) (kk : ∀ r : Option Nat, post r → W p l e R s m args below meth c H locs cells slots Q (F0 m (pc + 3) ls (va_rf r :: rest))) : W p l e R s m args below meth c H locs cells slots Q (F0 m pc ls st0) := by
  exact va_csq (va_Run.run (va_runS (As := As) (rest := rest) ⟨hx, hb, hml, hown, hts⟩ hM (va_cwS n hts hG hw hrm.1 hrm.2 hd.1 hd.2) ⟨zS_blind, fun U hU hW => ⟨rfl, hZ.warm hW, by rw [hU]; exact hP⟩⟩ rfl hn hsz hst (lv_room hcat) d ⟨by omega, by omega⟩)) kk
theorem zk_SN_q (hx : p.tables.exec = Jvm.exec) (hb : c.code = cc) (hml : c.maxLocals = nL) (hts : ∀ w ∈ Ts, w.before args s = true) (hown : s.vm.findClass own = some m.cls) (hZ : zK D cA s) (hP : va_P D vwCl ws H) {post : Option Nat → Prop} (hM : Met l y wsC rm (va_Pc As (zS D cA ws)) (va_Sq post) 0 0 zF) (hG : GoodIn Ts wsC) (hl : Cond.methodLinkNest own index y host ∈ zN) (hi : ∀ w ∈ [Cond.initialized y.cls, Cond.static y], w ∈ Ts) (hw : wsC = Cond.code y bytes maxL ret :: wsC') (hrm : rm.cells = 0 ∧ rm.slots = 0) (hd : zCall y n R rm maxL) (hsz : ls.size = nL) (hst : st0 = As.reverse ++ rest) (hcat : (rest.map fun v => v.category).sum ≤ 8) (hf : cells ≤ R.cells ∧ slots ≤ R.slots) (hn : As.length = n) (d : decode cc pc = .ok (.invokestatic index, 3)) (kk : ∀ r : Option Nat, post r → W p l e R s m args below meth c H locs cells slots Q (F0 m (pc + 3) ls (va_rf r :: rest))) : W p l e R s m args below meth c H locs cells slots Q (F0 m pc ls st0) := by
  exact va_csq (va_Run.run (va_runSN (As := As) (rest := rest) ⟨hx, hb, hml, hown, hts⟩ hM ⟨va_cnB n hts hG hw hrm.1 hrm.2 (hZ.2 _ hl) (hts _ (hi _ (by simp))) hd.1 hd.2, hts _ (hi _ (by simp)), trivial⟩ ⟨zS_blind, fun U hU hW => ⟨rfl, hZ.warm hW, by rw [hU]; exact hP⟩⟩ rfl hn hsz hst (lv_room hcat) d ⟨by omega, by omega⟩)) kk
theorem zw_VN_i {S : Type} {w1 : S → va_W} {A0 : Nat → Prop} {H0 : Heap} {mc ms : Nat} (hx : p.tables.exec = Jvm.exec) (hb : c.code = cc) (hml : c.maxLocals = nL) (hts : ∀ w ∈ Ts, w.before args s = true) (hown : s.vm.findClass own = some m.cls) (hZ : zK D cA s) (hP : va_P D vwCl ws H) (hD : va_D A0 ws) (hS : va_S A0 H0 H locs) (hA : ∀ q, H0.size ≤ q → A0 q) {post : Int32 → S → Prop} (hM : Met l y wsC rm (va_Pc (.ref b :: As) (zM D cA ws H.size)) (va_Qi post (fun u => zB D (va_A ws H.size) (w1 u)) (va_A ws H.size)) mc ms (va_A ws H.size)) (hG : GoodIn Ts wsC) (hl : Cond.methodLinkNest own index y host ∈ zN) (hi : ∀ w ∈ [Cond.initialized y.cls, Cond.instanceMethod y, Cond.selects C y y], w ∈ Ts) (hw : wsC = Cond.code y bytes maxL ret :: wsC') (hrm : rm.cells = mc ∧ rm.slots = ms) (hd : zCall y n R rm maxL) (hq : ws[q0]? = some (b, .inr (ci, fs))) (hc : vwCl[ci]? = some (C, T, N)) (hsz : ls.size = nL) (hst : st0 = As.reverse ++ .ref b :: rest) (hcat : (rest.map fun v => v.category).sum ≤ 8) (hf : cells + mc ≤ R.cells ∧ slots + ms ≤ R.slots) (hn : As.length = n) (d : decode cc pc = .ok (.invokevirtual index, 3)) (kk : ∀ (r : Int32) (u : S) (H1 : Heap) (locs1 : List Loc), post r u → va_P D vwCl (w1 u) H1 → va_D A0 (w1 u) → va_S A0 H0 H1 locs1 → H.size ≤ H1.size → W p l e R s m args below meth c H1 locs1 (cells + mc) (slots + ms) Q (F0 m (pc + 3) ls (.int r :: rest))) : W p l e R s m args below meth c H locs cells slots Q (F0 m pc ls st0) := by
  exact va_calli (va_runVN (As := As) (rest := rest) ⟨hx, hb, hml, hown, hts⟩ hM ⟨va_cnB n hts hG hw hrm.1 hrm.2 (hZ.2 _ hl) (hts _ (hi _ (by simp))) hd.1 hd.2, hts _ (hi _ (by simp)), hts _ (hi _ (by simp))⟩ ⟨zM_blind, va_recv hZ.1 hP hc hq, fun U hU hW => ⟨rfl, zM_of hZ hP hD hU hW⟩⟩ rfl hn hsz hst (lv_room hcat) d hf) hS (fun q _ h => z_free hD hS hA q h) (fun q h => z_free hD hS hA q h) (fun r u t H1 locs1 e1 hvm hp hB hz hk hS1 => kk r u H1 locs1 hp (by rw [← e1]; exact hB.1) (hB.2.weaken (fun _ _ _ h => z_free hD hS hA _ h)) hS1 hz)
theorem zw_V_i {S : Type} {w1 : S → va_W} {A0 : Nat → Prop} {H0 : Heap} {mc ms : Nat} (hx : p.tables.exec = Jvm.exec) (hb : c.code = cc) (hml : c.maxLocals = nL) (hts : ∀ w ∈ Ts, w.before args s = true) (hown : s.vm.findClass own = some m.cls) (hZ : zK D cA s) (hP : va_P D vwCl ws H) (hD : va_D A0 ws) (hS : va_S A0 H0 H locs) (hA : ∀ q, H0.size ≤ q → A0 q) {post : Int32 → S → Prop} (hM : Met l y wsC rm (va_Pc (.ref b :: As) (zM D cA ws H.size)) (va_Qi post (fun u => zB D (va_A ws H.size) (w1 u)) (va_A ws H.size)) mc ms (va_A ws H.size)) (hG : GoodIn Ts (wsV own index C y wsC)) (hy : y.cls = C) (hw : wsC = Cond.code y bytes maxL ret :: wsC') (hrm : rm.cells = mc ∧ rm.slots = ms) (hd : zCall y n R rm maxL) (hq : ws[q0]? = some (b, .inr (ci, fs))) (hc : vwCl[ci]? = some (C, T, N)) (hsz : ls.size = nL) (hst : st0 = As.reverse ++ .ref b :: rest) (hcat : (rest.map fun v => v.category).sum ≤ 8) (hf : cells + mc ≤ R.cells ∧ slots + ms ≤ R.slots) (hn : As.length = n) (d : decode cc pc = .ok (.invokevirtual index, 3)) (kk : ∀ (r : Int32) (u : S) (H1 : Heap) (locs1 : List Loc), post r u → va_P D vwCl (w1 u) H1 → va_D A0 (w1 u) → va_S A0 H0 H1 locs1 → H.size ≤ H1.size → W p l e R s m args below meth c H1 locs1 (cells + mc) (slots + ms) Q (F0 m (pc + 3) ls (.int r :: rest))) : W p l e R s m args below meth c H locs cells slots Q (F0 m pc ls st0) := by
  exact va_calli (va_runV (As := As) (rest := rest) ⟨hx, hb, hml, hown, hts⟩ hM (cwV n hts hG hw hrm.1 hrm.2 ⟨hy, hd.1⟩ hd.2) ⟨zM_blind, va_recv hZ.1 hP hc hq, fun U hU hW => ⟨rfl, zM_of hZ hP hD hU hW⟩⟩ rfl hn hsz hst (lv_room hcat) d hf) hS (fun q _ h => z_free hD hS hA q h) (fun q h => z_free hD hS hA q h) (fun r u t H1 locs1 e1 hvm hp hB hz hk hS1 => kk r u H1 locs1 hp (by rw [← e1]; exact hB.1) (hB.2.weaken (fun _ _ _ h => z_free hD hS hA _ h)) hS1 hz)
theorem zw_S_i {S : Type} {w1 : S → va_W} {A0 : Nat → Prop} {H0 : Heap} {mc ms : Nat} (hx : p.tables.exec = Jvm.exec) (hb : c.code = cc) (hml : c.maxLocals = nL) (hts : ∀ w ∈ Ts, w.before args s = true) (hown : s.vm.findClass own = some m.cls) (hZ : zK D cA s) (hP : va_P D vwCl ws H) (hD : va_D A0 ws) (hS : va_S A0 H0 H locs) (hA : ∀ q, H0.size ≤ q → A0 q) {post : Int32 → S → Prop} (hM : Met l y wsC rm (va_Pc As (zM D cA ws H.size)) (va_Qi post (fun u => zB D (va_A ws H.size) (w1 u)) (va_A ws H.size)) mc ms (va_A ws H.size)) (hG : GoodIn Ts (va_wsS own index y wsC)) (hw : wsC = Cond.code y bytes maxL ret :: wsC') (hrm : rm.cells = mc ∧ rm.slots = ms) (hd : zCall y n R rm maxL) (hsz : ls.size = nL) (hst : st0 = As.reverse ++ rest) (hcat : (rest.map fun v => v.category).sum ≤ 8) (hf : cells + mc ≤ R.cells ∧ slots + ms ≤ R.slots) (hn : As.length = n) (d : decode cc pc = .ok (.invokestatic index, 3)) (kk : ∀ (r : Int32) (u : S) (H1 : Heap) (locs1 : List Loc), post r u → va_P D vwCl (w1 u) H1 → va_D A0 (w1 u) → va_S A0 H0 H1 locs1 → H.size ≤ H1.size → W p l e R s m args below meth c H1 locs1 (cells + mc) (slots + ms) Q (F0 m (pc + 3) ls (.int r :: rest))) : W p l e R s m args below meth c H locs cells slots Q (F0 m pc ls st0) := by
  exact va_calli (va_runS (As := As) (rest := rest) ⟨hx, hb, hml, hown, hts⟩ hM (va_cwS n hts hG hw hrm.1 hrm.2 hd.1 hd.2) ⟨zM_blind, fun U hU hW => ⟨rfl, zM_of hZ hP hD hU hW⟩⟩ rfl hn hsz hst (lv_room hcat) d hf) hS (fun q _ h => z_free hD hS hA q h) (fun q h => z_free hD hS hA q h) (fun r u t H1 locs1 e1 hvm hp hB hz hk hS1 => kk r u H1 locs1 hp (by rw [← e1]; exact hB.1) (hB.2.weaken (fun _ _ _ h => z_free hD hS hA _ h)) hS1 hz)
theorem zw_SN_i {S : Type} {w1 : S → va_W} {A0 : Nat → Prop} {H0 : Heap} {mc ms : Nat} (hx : p.tables.exec = Jvm.exec) (hb : c.code = cc) (hml : c.maxLocals = nL) (hts : ∀ w ∈ Ts, w.before args s = true) (hown : s.vm.findClass own = some m.cls) (hZ : zK D cA s) (hP : va_P D vwCl ws H) (hD : va_D A0 ws) (hS : va_S A0 H0 H locs) (hA : ∀ q, H0.size ≤ q → A0 q) {post : Int32 → S → Prop} (hM : Met l y wsC rm (va_Pc As (zM D cA ws H.size)) (va_Qi post (fun u => zB D (va_A ws H.size) (w1 u)) (va_A ws H.size)) mc ms (va_A ws H.size)) (hG : GoodIn Ts wsC) (hl : Cond.methodLinkNest own index y host ∈ zN) (hi : ∀ w ∈ [Cond.initialized y.cls, Cond.static y], w ∈ Ts) (hw : wsC = Cond.code y bytes maxL ret :: wsC') (hrm : rm.cells = mc ∧ rm.slots = ms) (hd : zCall y n R rm maxL) (hsz : ls.size = nL) (hst : st0 = As.reverse ++ rest) (hcat : (rest.map fun v => v.category).sum ≤ 8) (hf : cells + mc ≤ R.cells ∧ slots + ms ≤ R.slots) (hn : As.length = n) (d : decode cc pc = .ok (.invokestatic index, 3)) (kk : ∀ (r : Int32) (u : S) (H1 : Heap) (locs1 : List Loc), post r u → va_P D vwCl (w1 u) H1 → va_D A0 (w1 u) → va_S A0 H0 H1 locs1 → H.size ≤ H1.size → W p l e R s m args below meth c H1 locs1 (cells + mc) (slots + ms) Q (F0 m (pc + 3) ls (.int r :: rest))) : W p l e R s m args below meth c H locs cells slots Q (F0 m pc ls st0) := by
  exact va_calli (va_runSN (As := As) (rest := rest) ⟨hx, hb, hml, hown, hts⟩ hM ⟨va_cnB n hts hG hw hrm.1 hrm.2 (hZ.2 _ hl) (hts _ (hi _ (by simp))) hd.1 hd.2, hts _ (hi _ (by simp)), trivial⟩ ⟨zM_blind, fun U hU hW => ⟨rfl, zM_of hZ hP hD hU hW⟩⟩ rfl hn hsz hst (lv_room hcat) d hf) hS (fun q _ h => z_free hD hS hA q h) (fun q h => z_free hD hS hA q h) (fun r u t H1 locs1 e1 hvm hp hB hz hk hS1 => kk r u H1 locs1 hp (by rw [← e1]; exact hB.1) (hB.2.weaken (fun _ _ _ h => z_free hD hS hA _ h)) hS1 hz)
theorem zw_VN_v {S : Type} {w1 : S → va_W} {A0 : Nat → Prop} {H0 : Heap} {mc ms : Nat} (hx : p.tables.exec = Jvm.exec) (hb : c.code = cc) (hml : c.maxLocals = nL) (hts : ∀ w ∈ Ts, w.before args s = true) (hown : s.vm.findClass own = some m.cls) (hZ : zK D cA s) (hP : va_P D vwCl ws H) (hD : va_D A0 ws) (hS : va_S A0 H0 H locs) (hA : ∀ q, H0.size ≤ q → A0 q) {post : S → Prop} (hM : Met l y wsC rm (va_Pc (.ref b :: As) (zM D cA ws H.size)) (va_Qv post (fun u => zB D (va_A ws H.size) (w1 u)) (va_A ws H.size)) mc ms (va_A ws H.size)) (hG : GoodIn Ts wsC) (hl : Cond.methodLinkNest own index y host ∈ zN) (hi : ∀ w ∈ [Cond.initialized y.cls, Cond.instanceMethod y, Cond.selects C y y], w ∈ Ts) (hw : wsC = Cond.code y bytes maxL ret :: wsC') (hrm : rm.cells = mc ∧ rm.slots = ms) (hd : zCall y n R rm maxL) (hq : ws[q0]? = some (b, .inr (ci, fs))) (hc : vwCl[ci]? = some (C, T, N)) (hsz : ls.size = nL) (hst : st0 = As.reverse ++ .ref b :: rest) (hcat : (rest.map fun v => v.category).sum ≤ 8) (hf : cells + mc ≤ R.cells ∧ slots + ms ≤ R.slots) (hn : As.length = n) (d : decode cc pc = .ok (.invokevirtual index, 3)) (kk : ∀ (u : S) (H1 : Heap) (locs1 : List Loc), post u → va_P D vwCl (w1 u) H1 → va_D A0 (w1 u) → va_S A0 H0 H1 locs1 → H.size ≤ H1.size → W p l e R s m args below meth c H1 locs1 (cells + mc) (slots + ms) Q (F0 m (pc + 3) ls rest)) : W p l e R s m args below meth c H locs cells slots Q (F0 m pc ls st0) := by
  exact va_callv (va_runVN (As := As) (rest := rest) ⟨hx, hb, hml, hown, hts⟩ hM ⟨va_cnB n hts hG hw hrm.1 hrm.2 (hZ.2 _ hl) (hts _ (hi _ (by simp))) hd.1 hd.2, hts _ (hi _ (by simp)), hts _ (hi _ (by simp))⟩ ⟨zM_blind, va_recv hZ.1 hP hc hq, fun U hU hW => ⟨rfl, zM_of hZ hP hD hU hW⟩⟩ rfl hn hsz hst (lv_room hcat) d hf) hS (fun q _ h => z_free hD hS hA q h) (fun q h => z_free hD hS hA q h) (fun u t H1 locs1 e1 hvm hp hB hz hk hS1 => kk u H1 locs1 hp (by rw [← e1]; exact hB.1) (hB.2.weaken (fun _ _ _ h => z_free hD hS hA _ h)) hS1 hz)
theorem zw_V_v {S : Type} {w1 : S → va_W} {A0 : Nat → Prop} {H0 : Heap} {mc ms : Nat} (hx : p.tables.exec = Jvm.exec) (hb : c.code = cc) (hml : c.maxLocals = nL) (hts : ∀ w ∈ Ts, w.before args s = true) (hown : s.vm.findClass own = some m.cls) (hZ : zK D cA s) (hP : va_P D vwCl ws H) (hD : va_D A0 ws) (hS : va_S A0 H0 H locs) (hA : ∀ q, H0.size ≤ q → A0 q) {post : S → Prop} (hM : Met l y wsC rm (va_Pc (.ref b :: As) (zM D cA ws H.size)) (va_Qv post (fun u => zB D (va_A ws H.size) (w1 u)) (va_A ws H.size)) mc ms (va_A ws H.size)) (hG : GoodIn Ts (wsV own index C y wsC)) (hy : y.cls = C) (hw : wsC = Cond.code y bytes maxL ret :: wsC') (hrm : rm.cells = mc ∧ rm.slots = ms) (hd : zCall y n R rm maxL) (hq : ws[q0]? = some (b, .inr (ci, fs))) (hc : vwCl[ci]? = some (C, T, N)) (hsz : ls.size = nL) (hst : st0 = As.reverse ++ .ref b :: rest) (hcat : (rest.map fun v => v.category).sum ≤ 8) (hf : cells + mc ≤ R.cells ∧ slots + ms ≤ R.slots) (hn : As.length = n) (d : decode cc pc = .ok (.invokevirtual index, 3)) (kk : ∀ (u : S) (H1 : Heap) (locs1 : List Loc), post u → va_P D vwCl (w1 u) H1 → va_D A0 (w1 u) → va_S A0 H0 H1 locs1 → H.size ≤ H1.size → W p l e R s m args below meth c H1 locs1 (cells + mc) (slots + ms) Q (F0 m (pc + 3) ls rest)) : W p l e R s m args below meth c H locs cells slots Q (F0 m pc ls st0) := by
  exact va_callv (va_runV (As := As) (rest := rest) ⟨hx, hb, hml, hown, hts⟩ hM (cwV n hts hG hw hrm.1 hrm.2 ⟨hy, hd.1⟩ hd.2) ⟨zM_blind, va_recv hZ.1 hP hc hq, fun U hU hW => ⟨rfl, zM_of hZ hP hD hU hW⟩⟩ rfl hn hsz hst (lv_room hcat) d hf) hS (fun q _ h => z_free hD hS hA q h) (fun q h => z_free hD hS hA q h) (fun u t H1 locs1 e1 hvm hp hB hz hk hS1 => kk u H1 locs1 hp (by rw [← e1]; exact hB.1) (hB.2.weaken (fun _ _ _ h => z_free hD hS hA _ h)) hS1 hz)
theorem zw_S_v {S : Type} {w1 : S → va_W} {A0 : Nat → Prop} {H0 : Heap} {mc ms : Nat} (hx : p.tables.exec = Jvm.exec) (hb : c.code = cc) (hml : c.maxLocals = nL) (hts : ∀ w ∈ Ts, w.before args s = true) (hown : s.vm.findClass own = some m.cls) (hZ : zK D cA s) (hP : va_P D vwCl ws H) (hD : va_D A0 ws) (hS : va_S A0 H0 H locs) (hA : ∀ q, H0.size ≤ q → A0 q) {post : S → Prop} (hM : Met l y wsC rm (va_Pc As (zM D cA ws H.size)) (va_Qv post (fun u => zB D (va_A ws H.size) (w1 u)) (va_A ws H.size)) mc ms (va_A ws H.size)) (hG : GoodIn Ts (va_wsS own index y wsC)) (hw : wsC = Cond.code y bytes maxL ret :: wsC') (hrm : rm.cells = mc ∧ rm.slots = ms) (hd : zCall y n R rm maxL) (hsz : ls.size = nL) (hst : st0 = As.reverse ++ rest) (hcat : (rest.map fun v => v.category).sum ≤ 8) (hf : cells + mc ≤ R.cells ∧ slots + ms ≤ R.slots) (hn : As.length = n) (d : decode cc pc = .ok (.invokestatic index, 3)) (kk : ∀ (u : S) (H1 : Heap) (locs1 : List Loc), post u → va_P D vwCl (w1 u) H1 → va_D A0 (w1 u) → va_S A0 H0 H1 locs1 → H.size ≤ H1.size → W p l e R s m args below meth c H1 locs1 (cells + mc) (slots + ms) Q (F0 m (pc + 3) ls rest)) : W p l e R s m args below meth c H locs cells slots Q (F0 m pc ls st0) := by
  exact va_callv (va_runS (As := As) (rest := rest) ⟨hx, hb, hml, hown, hts⟩ hM (va_cwS n hts hG hw hrm.1 hrm.2 hd.1 hd.2) ⟨zM_blind, fun U hU hW => ⟨rfl, zM_of hZ hP hD hU hW⟩⟩ rfl hn hsz hst (lv_room hcat) d hf) hS (fun q _ h => z_free hD hS hA q h) (fun q h => z_free hD hS hA q h) (fun u t H1 locs1 e1 hvm hp hB hz hk hS1 => kk u H1 locs1 hp (by rw [← e1]; exact hB.1) (hB.2.weaken (fun _ _ _ h => z_free hD hS hA _ h)) hS1 hz)
theorem zw_SN_v {S : Type} {w1 : S → va_W} {A0 : Nat → Prop} {H0 : Heap} {mc ms : Nat} (hx : p.tables.exec = Jvm.exec) (hb : c.code = cc) (hml : c.maxLocals = nL) (hts : ∀ w ∈ Ts, w.before args s = true) (hown : s.vm.findClass own = some m.cls) (hZ : zK D cA s) (hP : va_P D vwCl ws H) (hD : va_D A0 ws) (hS : va_S A0 H0 H locs) (hA : ∀ q, H0.size ≤ q → A0 q) {post : S → Prop} (hM : Met l y wsC rm (va_Pc As (zM D cA ws H.size)) (va_Qv post (fun u => zB D (va_A ws H.size) (w1 u)) (va_A ws H.size)) mc ms (va_A ws H.size)) (hG : GoodIn Ts wsC) (hl : Cond.methodLinkNest own index y host ∈ zN) (hi : ∀ w ∈ [Cond.initialized y.cls, Cond.static y], w ∈ Ts) (hw : wsC = Cond.code y bytes maxL ret :: wsC') (hrm : rm.cells = mc ∧ rm.slots = ms) (hd : zCall y n R rm maxL) (hsz : ls.size = nL) (hst : st0 = As.reverse ++ rest) (hcat : (rest.map fun v => v.category).sum ≤ 8) (hf : cells + mc ≤ R.cells ∧ slots + ms ≤ R.slots) (hn : As.length = n) (d : decode cc pc = .ok (.invokestatic index, 3)) (kk : ∀ (u : S) (H1 : Heap) (locs1 : List Loc), post u → va_P D vwCl (w1 u) H1 → va_D A0 (w1 u) → va_S A0 H0 H1 locs1 → H.size ≤ H1.size → W p l e R s m args below meth c H1 locs1 (cells + mc) (slots + ms) Q (F0 m (pc + 3) ls rest)) : W p l e R s m args below meth c H locs cells slots Q (F0 m pc ls st0) := by
  exact va_callv (va_runSN (As := As) (rest := rest) ⟨hx, hb, hml, hown, hts⟩ hM ⟨va_cnB n hts hG hw hrm.1 hrm.2 (hZ.2 _ hl) (hts _ (hi _ (by simp))) hd.1 hd.2, hts _ (hi _ (by simp)), trivial⟩ ⟨zM_blind, fun U hU hW => ⟨rfl, zM_of hZ hP hD hU hW⟩⟩ rfl hn hsz hst (lv_room hcat) d hf) hS (fun q _ h => z_free hD hS hA q h) (fun q h => z_free hD hS hA q h) (fun u t H1 locs1 e1 hvm hp hB hz hk hS1 => kk u H1 locs1 hp (by rw [← e1]; exact hB.1) (hB.2.weaken (fun _ _ _ h => z_free hD hS hA _ h)) hS1 hz)
/-- a join: all roads to it give the same -/
theorem z_join {α : Type} {pc' : Nat} {st : List Value} (P : α → Array Slot → Prop) (st' : α → List Value) (hJ : ∀ v ls', P v ls' → W p l e R s m args below meth c H locs cells slots Q (F0 m pc' ls' (st' v))) (k : (∀ v ls', P v ls' → W p l e R s m args below meth c H locs cells slots Q (F0 m pc' ls' (st' v))) → W p l e R s m args below meth c H locs cells slots Q (F0 m pc ls st)) : W p l e R s m args below meth c H locs cells slots Q (F0 m pc ls st) := k hJ
theorem z_joinW {α : Type} {pc' : Nat} {st : List Value} (P : α → Heap → List Loc → Array Slot → Prop) (st' : α → List Value) (hJ : ∀ v H1 locs1 ls', P v H1 locs1 ls' → W p l e R s m args below meth c H1 locs1 cells slots Q (F0 m pc' ls' (st' v))) (k : (∀ v H1 locs1 ls', P v H1 locs1 ls' → W p l e R s m args below meth c H1 locs1 cells slots Q (F0 m pc' ls' (st' v))) → W p l e R s m args below meth c H locs cells slots Q (F0 m pc ls st)) : W p l e R s m args below meth c H locs cells slots Q (F0 m pc ls st) := k hJ
/-- a loop that reads: by a measure -/
theorem z_loop {α : Type} (μ : α → Nat) (P : α → Array Slot → Prop) (st' : α → List Value) (v0 : α) (h0 : P v0 ls)
    (step : ∀ v, (∀ v' ls', μ v' < μ v → P v' ls' → W p l e R s m args below meth c H locs cells slots Q (F0 m pc ls' (st' v'))) → ∀ ls', P v ls' → W p l e R s m args below meth c H locs cells slots Q (F0 m pc ls' (st' v))) : W p l e R s m args below meth c H locs cells slots Q (F0 m pc ls (st' v0)) := by
  have key : ∀ (n : Nat) (v : α) (ls' : Array Slot), μ v < n → P v ls' → W p l e R s m args below meth c H locs cells slots Q (F0 m pc ls' (st' v)) := by
    intro n
    induction n with
    | zero => intro v ls' h; exact absurd h (Nat.not_lt_zero _)
    | succ n ih => intro v ls' h hp; exact step v (fun v' ls'' h' hp' => ih v' ls'' (by omega) hp') ls' hp
  exact key _ v0 ls (Nat.lt_succ_self _) h0
/-- a loop that writes -/
theorem z_loopW {α : Type} (μ : α → Nat) (P : α → Heap → List Loc → Array Slot → Prop) (st' : α → List Value) (v0 : α) (h0 : P v0 H locs ls)
    (step : ∀ v, (∀ v' H1 locs1 ls', μ v' < μ v → P v' H1 locs1 ls' → W p l e R s m args below meth c H1 locs1 cells slots Q (F0 m pc ls' (st' v'))) → ∀ H1 locs1 ls', P v H1 locs1 ls' → W p l e R s m args below meth c H1 locs1 cells slots Q (F0 m pc ls' (st' v))) : W p l e R s m args below meth c H locs cells slots Q (F0 m pc ls (st' v0)) := by
  have key : ∀ (n : Nat) (v : α) (H1 : Heap) (locs1 : List Loc) (ls' : Array Slot), μ v < n → P v H1 locs1 ls' → W p l e R s m args below meth c H1 locs1 cells slots Q (F0 m pc ls' (st' v)) := by
    intro n
    induction n with
    | zero => intro v H1 locs1 ls' h; exact absurd h (Nat.not_lt_zero _)
    | succ n ih => intro v H1 locs1 ls' h hp; exact step v (fun v' H2 locs2 ls'' h' hp' => ih v' H2 locs2 ls'' (by omega) hp') H1 locs1 ls' hp
  exact key _ v0 H locs ls (Nat.lt_succ_self _) h0
end ZC
section ZR
variable {p : Program} {l : Launch} {e : Env} {R : Room} {s : State} {m : MethodId} {args : Array Value} {below : List Frame} {meth : Method} {c : Code} {H : Heap} {locs : List Loc} {cells slots : Nat} {cc : ByteArray} {pc : Nat} {ls : Array Slot}
/-- ends of a method that reads -/
theorem zr_i {post : Int32 → Prop} {v : Int32} (hx : p.tables.exec = Jvm.exec) (hb : c.code = cc) (hr : meth.sig.returnType = some .int) (hlocks : meth.locks = false) (hp : post v) (d : decode cc pc = .ok (.ireturn, 1)) : W p l e R s m args below meth c s.heap [] 0 0 (MQ below (vp_Si post) args s 0 0 zF) (F0 m pc ls [.int v]) :=
  W.iret hx hb hr (fun t ht _ => ⟨v, rfl, hp, ht⟩) (fun _ h => nomatch h) d hlocks
theorem zr_z {post : Int32 → Prop} {b : Bool} (hx : p.tables.exec = Jvm.exec) (hb : c.code = cc) (hr : meth.sig.returnType = some .boolean) (hlocks : meth.locks = false) (hp : post (bI b)) (d : decode cc pc = .ok (.ireturn, 1)) : W p l e R s m args below meth c s.heap [] 0 0 (MQ below (vp_Si post) args s 0 0 zF) (F0 m pc ls [.int (bI b)]) :=
  W.zret hx hb hr (by cases b <;> rfl) (fun t ht _ => ⟨_, rfl, hp, ht⟩) (fun _ h => nomatch h) d hlocks
/-- ends of a method that writes -/
theorem zr_qi {S : Type} {post : Int32 → S → Prop} {w1 : S → va_W} {D : va_G} {A : Nat → Prop} {v : Int32} {ws : va_W} (u : S) (hx : p.tables.exec = Jvm.exec) (hb : c.code = cc) (hr : meth.sig.returnType = some .int) (hlocks : meth.locks = false) (hp : post v u) (hP : va_P D vwCl ws H) (hD : va_D A ws) (hS : va_S A s.heap H locs) (hw : ws = w1 u) (d : decode cc pc = .ok (.ireturn, 1)) : W p l e R s m args below meth c H locs cells slots (MQ below (va_Qi post (fun u => zB D A (w1 u)) A) args s cells slots A) (F0 m pc ls [.int v]) := by
  subst hw
  exact W.iret hx hb hr (fun t ht _ => ⟨⟨v, u, rfl, hp, by rw [ht]; exact hP, hD⟩, hS.F ht⟩) hS.2.2 d hlocks
theorem zr_qv {S : Type} {post : S → Prop} {w1 : S → va_W} {D : va_G} {A : Nat → Prop} {ws : va_W} (u : S) (hx : p.tables.exec = Jvm.exec) (hb : c.code = cc) (hr : meth.sig.returnType = none) (hlocks : meth.locks = false) (hp : post u) (hP : va_P D vwCl ws H) (hD : va_D A ws) (hS : va_S A s.heap H locs) (hw : ws = w1 u) (d : decode cc pc = .ok (.return_, 1)) : W p l e R s m args below meth c H locs cells slots (MQ below (va_Qv post (fun u => zB D A (w1 u)) A) args s cells slots A) (F0 m pc ls []) := by
  subst hw
  exact W.vret hx hb hr (fun t ht _ => ⟨⟨u, rfl, hp, by rw [ht]; exact hP, hD⟩, hS.F ht⟩) hS.2.2 d hlocks
theorem zr_qz {S : Type} {post : Int32 → S → Prop} {w1 : S → va_W} {D : va_G} {A : Nat → Prop} {b : Bool} {ws : va_W} (u : S) (hx : p.tables.exec = Jvm.exec) (hb : c.code = cc) (hr : meth.sig.returnType = some .boolean) (hlocks : meth.locks = false) (hp : post (bI b) u) (hP : va_P D vwCl ws H) (hD : va_D A ws) (hS : va_S A s.heap H locs) (hw : ws = w1 u) (d : decode cc pc = .ok (.ireturn, 1)) : W p l e R s m args below meth c H locs cells slots (MQ below (va_Qi post (fun u => zB D A (w1 u)) A) args s cells slots A) (F0 m pc ls [.int (bI b)]) := by
  subst hw
  exact W.zret hx hb hr (by cases b <;> rfl) (fun t ht _ => ⟨⟨_, u, rfl, hp, by rw [ht]; exact hP, hD⟩, hS.F ht⟩) hS.2.2 d hlocks
end ZR
end
section
/-! what the cells of the class hold -/
abbrev zTape (nu tr le sl : Nat) (dn : Option Nat) (hl : Bool) (fc b : Nat) : va_E := .inr (3, [.int (nI nu), .int (nI tr), .int (nI le), .int (nI sl), .int (oI dn), .int (bI hl), .int (nI fc), .ref b])
abbrev zDrive (nu pa sp : Nat) (mt : Option Nat) (pl tm : Int32) (ct : Nat) : va_E := .inr (0, [.int (nI nu), .int (nI pa), .int (nI sp), va_rf mt, .int pl, .int tm, .int (nI ct)])
abbrev zJobs (nc dn w f d : Nat) : va_E := .inr (1, [.int (nI nc), .int (nI dn), .ref w, .ref f, .ref d])
abbrev zOrd (oc an al ar ab ao : Nat) : va_E := .inr (2, [.int (nI oc), .ref an, .ref al, .ref ar, .ref ab, .ref ao])
abbrev zInts (cA : Nat → ClassId) (n : Nat) (f : Nat → Int32) : va_E := .inl (cA 0, n, .inl f)
theorem zm_min {a b : Nat} (ha : a < 2 ^ 31) (hb : b < 2 ^ 31) : (if nI b < nI a then nI b else nI a) = nI (min a b) := by
  by_cases h : b < a
  · rw [if_pos (nI_lt h ha), Nat.min_eq_right (Nat.le_of_lt h)]
  · rw [if_neg (fun q => h ((nI_ltI hb ha).mp q)), Nat.min_eq_left (Nat.le_of_not_lt h)]
theorem zm_max {a b : Nat} (ha : a < 2 ^ 31) (hb : b < 2 ^ 31) : (if nI a < nI b then nI b else nI a) = nI (max a b) := by
  by_cases h : a < b
  · rw [if_pos (nI_lt h hb), Nat.max_eq_right (Nat.le_of_lt h)]
  · rw [if_neg (fun q => h ((nI_ltI ha hb).mp q)), Nat.max_eq_left (Nat.le_of_not_lt h)]
def dif (a b : Nat) : Nat := if a ≤ b then b - a else a - b
theorem zsub_toInt {a b : Nat} (ha : a < 2 ^ 30) (hb : b < 2 ^ 30) : (nI a - nI b).toInt = (a : Int) - b := pk_sub_toInt ha hb
theorem zm_abs {a b : Nat} (ha : a < 2 ^ 30) (hb : b < 2 ^ 30) : (if 0 ≤ (nI a) - (nI b) then (nI a) - (nI b) else 0 - ((nI a) - (nI b))) = nI (dif a b) := by
  by_cases h : b ≤ a
  · rw [pk_sub h, if_pos (nI_pos' (by omega))]
    congr 1; unfold dif; split <;> omega
  · have h1 : ¬ (0 : Int32) ≤ nI a - nI b := by
      rw [Int32.le_iff_toInt_le, zsub_toInt ha hb, Int32.toInt_zero]; omega
    rw [if_neg h1]
    have h2 : (0 : Int32) - (nI a - nI b) = nI b - nI a := by
      have : ∀ x y : Int32, (0 : Int32) - (x - y) = y - x := by
        intro x y
        rw [← Int32.toBitVec_inj]; simp only [Int32.toBitVec_sub]
        have : (0 : Int32).toBitVec = 0#32 := rfl
        rw [this]; generalize x.toBitVec = u; generalize y.toBitVec = v; bv_omega
      exact this _ _
    rw [h2, pk_sub (by omega)]
    congr 1; unfold dif; split <;> omega
theorem zinc (k : Nat) (a : Nat) {x : Int32} (h : Int32.ofInt (k : Int) = x := by rfl) : nI a + x = nI (a + k) := by
  rw [← h, ← nI_add]; rfl
theorem zdec {a : Nat} (h : 0 < a) : nI a + Int32.ofInt (-1) = nI (a - 1) := by
  obtain ⟨b, rfl⟩ : ∃ b, a = b + 1 := ⟨a - 1, by omega⟩
  exact pk_m1 b
theorem narB (b : Bool) : narrow .boolean (.int (bI b)) = .int (bI b) := by cases b <;> rfl
theorem fitB (b : Bool) : fits .boolean (.int (bI b)) = true := by cases b <;> rfl
/-- the track of a place, how far along it lies -/
def trk (tr le p : Nat) : Nat := if p / le < tr then p / le else tr - 1
def alo (tr le p : Nat) : Nat := if trk tr le p % 2 = 0 then min (p - trk tr le p * le) (le - 1) else le - 1 - min (p - trk tr le p * le) (le - 1)
theorem z_and1 {n : Nat} (h : n < 2 ^ 31) : nI n &&& nI 1 = nI (n % 2) := pk_andN (k := 1) (by omega) (by decide)
theorem trk_le {tr le p : Nat} (h : 0 < tr) : trk tr le p < tr := by unfold trk; split <;> omega
theorem trk_mul {tr le p : Nat} : trk tr le p * le ≤ p := by
  unfold trk
  split
  · exact Nat.div_mul_le_self p le
  · rename_i h
    refine Nat.le_trans (Nat.mul_le_mul_right le (show tr - 1 ≤ p / le by omega)) (Nat.div_mul_le_self p le)
theorem alo_lt {tr le p : Nat} (h : 0 < le) : alo tr le p < le := by unfold alo; split <;> omega
/-- the time of a way -/
def wayT (pa sp tr le a b : Nat) : Nat := dif (alo tr le a) (alo tr le b) * pa + dif (trk tr le a) (trk tr le b) * sp
theorem zset_s {ws : va_W} {k : Nat} {q e : Nat × va_E} (h : ws[k]? = some q) : (ws.set k e)[k]? = some e := List.getElem?_set_self (List.getElem?_eq_some_iff.mp h).1
theorem zset_n {ws : va_W} {k j : Nat} {q e : Nat × va_E} (h : ws[j]? = some q) (hn : k ≠ j) : (ws.set k e)[j]? = some q := by rw [List.getElem?_set_ne hn]; exact h
theorem zset2 {ws : va_W} {k : Nat} {e e' : Nat × va_E} : (ws.set k e).set k e' = ws.set k e' := List.set_set ..
theorem zset_self {ws : va_W} {k : Nat} {q : Nat × va_E} (h : ws[k]? = some q) : ws.set k q = ws := by
  obtain ⟨h1, h2⟩ := List.getElem?_eq_some_iff.mp h
  rw [← h2, List.set_getElem_self]
theorem zapc {ws : va_W} {k j a b c c' : Nat} {fs fs' : List Value} (h : ws[k]? = some (a, .inr (c, fs))) (h' : ws[j]? = some (b, .inr (c', fs'))) (hc : c ≠ c') : k ≠ j := fun q => by
  rw [q, h'] at h
  injection h with h; injection h with _ h; injection h with h; injection h with h _
  exact hc h.symm
theorem zapo {ws : va_W} {k j a b : Nat} {x : Nat × List Value} {y : ClassId × vp_A} (h : ws[k]? = some (a, .inr x)) (h' : ws[j]? = some (b, .inl y)) : k ≠ j := fun q => by
  rw [q, h'] at h
  injection h with h; injection h with _ h; cases h
theorem zapo' {ws : va_W} {k j a b : Nat} {x : Nat × List Value} {y : ClassId × vp_A} (h : ws[k]? = some (a, .inl y)) (h' : ws[j]? = some (b, .inr x)) : k ≠ j := fun q => zapo h' h q.symm
/-- the jobs that wait at x, by rising numbers -/
def wl (f : Nat → Int32) (x : Int32) (n : Nat) : List Nat := (List.range n).filter (fun k => decide (f k = x))
theorem wl_0 {f : Nat → Int32} {x : Int32} : wl f x 0 = [] := rfl
theorem wl_y {f : Nat → Int32} {x : Int32} {n : Nat} (h : f n = x) : wl f x (n + 1) = wl f x n ++ [n] := by simp [wl, List.range_succ, h]
theorem wl_n {f : Nat → Int32} {x : Int32} {n : Nat} (h : ¬ f n = x) : wl f x (n + 1) = wl f x n := by simp [wl, List.range_succ, h]
theorem wl_le {f : Nat → Int32} {x : Int32} : ∀ n, (wl f x n).length ≤ n
  | 0 => Nat.le_refl 0
  | n + 1 => by
    have ih := wl_le (f := f) (x := x) n
    by_cases h : f n = x
    · rw [wl_y h, List.length_append]; simp; omega
    · rw [wl_n h]; omega
theorem wl_mono {f : Nat → Int32} {x : Int32} {m : Nat} : ∀ n, m ≤ n → (wl f x m).length ≤ (wl f x n).length
  | 0, h => by rw [Nat.le_zero.mp h]; exact Nat.le_refl _
  | n + 1, h => by
    rcases Nat.lt_or_ge n m with h2 | h2
    · rw [show m = n + 1 by omega]; exact Nat.le_refl _
    · have ih := wl_mono (f := f) (x := x) n h2
      by_cases h : f n = x
      · rw [wl_y h, List.length_append]; omega
      · rw [wl_n h]; exact ih
def erl (f : Nat → Int32) (x : Int32) (dl : Nat → Nat) (n : Nat) : Nat := (wl f x n).foldl (fun a k => min a (dl k)) 99999
theorem erl_y {f : Nat → Int32} {x : Int32} {dl : Nat → Nat} {n : Nat} (h : f n = x) : erl f x dl (n + 1) = min (erl f x dl n) (dl n) := by simp [erl, wl_y h]
theorem erl_n {f : Nat → Int32} {x : Int32} {dl : Nat → Nat} {n : Nat} (h : ¬ f n = x) : erl f x dl (n + 1) = erl f x dl n := by simp [erl, wl_n h]
theorem erl_le {f : Nat → Int32} {x : Int32} {dl : Nat → Nat} : ∀ n, erl f x dl n ≤ 99999
  | 0 => Nat.le_refl _
  | n + 1 => by
    have ih := erl_le (f := f) (x := x) (dl := dl) n
    by_cases h : f n = x
    · rw [erl_y h]; omega
    · rw [erl_n h]; exact ih
/-- a row with the list L at its head -/
def colF (f0 : Nat → Int32) (L : List Nat) : Nat → Int32 := fun i => if i < L.length then nI (L.getD i 0) else f0 i
theorem colF_0 (f0 : Nat → Int32) : colF f0 [] = f0 := by funext i; simp [colF]
theorem colF_y (f0 : Nat → Int32) (L : List Nat) (j : Nat) : upd (colF f0 L) L.length (nI j) = colF f0 (L ++ [j]) := by
  funext i
  by_cases h : i = L.length
  · subst h; rw [pk_us]; simp [colF]
  · rw [pk_un h]
    unfold colF
    by_cases h2 : i < L.length
    · rw [if_pos h2, if_pos (by simp; omega), List.getD_eq_getElem?_getD, List.getD_eq_getElem?_getD, List.getElem?_append_left h2]
    · rw [if_neg h2, if_neg (by simp; omega)]
end
section
/-! the best order, by sets of what is left: pure -/
def am1 (t : Nat → Nat) (acc : Option Nat) (k : Nat) : Option Nat := match acc with
  | none => some k
  | some j => if t k < t j then some k else some j
/-- of the numbers below n with p the first one where t is least -/
def aminP (t : Nat → Nat) (p : Nat → Bool) : Nat → Option Nat
  | 0 => none
  | n + 1 => if p n then am1 t (aminP t p n) n else aminP t p n
def cnt (p : Nat → Bool) : Nat → Nat
  | 0 => 0
  | n + 1 => cnt p n + if p n then 1 else 0
def rem (p : Nat → Bool) (b : Nat) : Nat → Bool := fun x => p x && !(x == b)
theorem aminP_y {t : Nat → Nat} {p : Nat → Bool} {n : Nat} (h : p n = true) : aminP t p (n + 1) = am1 t (aminP t p n) n := by simp [aminP, h]
theorem aminP_n {t : Nat → Nat} {p : Nat → Bool} {n : Nat} (h : p n = false) : aminP t p (n + 1) = aminP t p n := by simp [aminP, h]
theorem aminP_mem {t : Nat → Nat} {p : Nat → Bool} : ∀ (n b : Nat), aminP t p n = some b → b < n ∧ p b = true
  | 0, b, h => by cases h
  | n + 1, b, h => by
    cases hp : p n with
    | false =>
      rw [aminP_n hp] at h
      obtain ⟨h1, h2⟩ := aminP_mem n b h
      exact ⟨by omega, h2⟩
    | true =>
      rw [aminP_y hp] at h
      cases ha : aminP t p n with
      | none =>
        rw [ha] at h; cases h
        exact ⟨by omega, hp⟩
      | some j =>
        rw [ha] at h
        unfold am1 at h
        dsimp only at h
        split at h
        · cases h; exact ⟨by omega, hp⟩
        · have e : some b = some b ∧ _ = b := ⟨rfl, Option.some.inj h⟩
          rw [e.2] at ha
          obtain ⟨h1, h2⟩ := aminP_mem n b ha
          exact ⟨by omega, h2⟩
theorem aminP_none {t : Nat → Nat} {p : Nat → Bool} : ∀ (n : Nat), aminP t p n = none → ∀ x, x < n → p x = false
  | 0, _, x, hx => by omega
  | n + 1, h, x, hx => by
    cases hp : p n with
    | false =>
      rw [aminP_n hp] at h
      by_cases e : x = n
      · rw [e]; exact hp
      · exact aminP_none n h x (by omega)
    | true =>
      rw [aminP_y hp] at h
      cases ha : aminP t p n with
      | none => rw [ha] at h; cases h
      | some j =>
        rw [ha] at h
        unfold am1 at h
        dsimp only at h
        split at h <;> cases h
theorem aminP_least {t : Nat → Nat} {p : Nat → Bool} : ∀ (n b : Nat), aminP t p n = some b → (∀ x, x < n → p x = true → t b ≤ t x) ∧ ∀ x, x < b → p x = true → t b < t x
  | 0, b, h => by cases h
  | n + 1, b, h => by
    cases hp : p n with
    | false =>
      rw [aminP_n hp] at h
      obtain ⟨h1, h2⟩ := aminP_least n b h
      refine ⟨fun x hx hq => ?_, h2⟩
      by_cases e : x = n
      · rw [e, hp] at hq; cases hq
      · exact h1 x (by omega) hq
    | true =>
      rw [aminP_y hp] at h
      cases ha : aminP t p n with
      | none =>
        rw [ha] at h; cases h
        have h0 := aminP_none n ha
        refine ⟨fun x hx hq => ?_, fun x hx hq => ?_⟩
        · by_cases e : x = n
          · rw [e]; exact Nat.le_refl _
          · rw [h0 x (by omega)] at hq; cases hq
        · rw [h0 x hx] at hq; cases hq
      | some j =>
        rw [ha] at h
        obtain ⟨h1, h2⟩ := aminP_least n j ha
        obtain ⟨hj, -⟩ := aminP_mem n j ha
        unfold am1 at h
        dsimp only at h
        split at h
        · rename_i hlt
          cases h
          refine ⟨fun x hx hq => ?_, fun x hx hq => ?_⟩
          · by_cases e : x = n
            · rw [e]; exact Nat.le_refl _
            · have := h1 x (by omega) hq; omega
          · have := h1 x hx hq; omega
        · rename_i hlt
          cases h
          refine ⟨fun x hx hq => ?_, h2⟩
          by_cases e : x = n
          · rw [e]; omega
          · exact h1 x (by omega) hq
theorem aminP_congr {t u : Nat → Nat} {p q : Nat → Bool} : ∀ (n : Nat), (∀ x, x < n → p x = true → t x = u x) → (∀ x, x < n → p x = q x) → aminP t p n = aminP u q n
  | 0, _, _ => rfl
  | n + 1, h1, h2 => by
    have ih := aminP_congr n (fun x hx => h1 x (by omega)) (fun x hx => h2 x (by omega))
    have e := h2 n (by omega)
    cases hp : p n with
    | false => rw [aminP_n hp, aminP_n (e.symm.trans hp), ih]
    | true =>
      rw [aminP_y hp, aminP_y (e.symm.trans hp), ← ih]
      have e1 := h1 n (by omega) hp
      cases ha : aminP t p n with
      | none => rfl
      | some j =>
        obtain ⟨hj, hpj⟩ := aminP_mem n j ha
        simp only [am1, e1, h1 j (by omega) hpj]
theorem cnt_congr {p q : Nat → Bool} : ∀ (n : Nat), (∀ x, x < n → p x = q x) → cnt p n = cnt q n
  | 0, _ => rfl
  | n + 1, h => by rw [cnt, cnt, cnt_congr n (fun x hx => h x (by omega)), h n (by omega)]
theorem cnt_le {p : Nat → Bool} : ∀ (n : Nat), cnt p n ≤ n
  | 0 => Nat.le_refl 0
  | n + 1 => by have ih := cnt_le (p := p) n; rw [cnt]; split <;> omega
theorem cnt_rem {p : Nat → Bool} {b : Nat} : ∀ (n : Nat), p b = true → cnt (rem p b) n + (if b < n then 1 else 0) = cnt p n
  | 0, _ => by simp [cnt]
  | n + 1, h => by
    have ih := cnt_rem (p := p) (b := b) n h
    rw [cnt, cnt]
    by_cases e : n = b
    · subst e
      have hr : rem p n n = false := by simp [rem]
      rw [hr, h]
      rw [if_neg (by omega)] at ih
      simp; omega
    · have hr : rem p b n = p n := by simp [rem, e]
      have hlt : (if b < n + 1 then 1 else 0) = (if b < n then 1 else 0) := by
        by_cases h9 : b < n
        · rw [if_pos h9, if_pos (by omega)]
        · rw [if_neg h9, if_neg (by omega)]
      rw [hr, hlt, ← ih, Nat.add_right_comm]
theorem cnt_none {t : Nat → Nat} {p : Nat → Bool} {n : Nat} (h : cnt p n = 0) : aminP t p n = none := by
  cases ha : aminP t p n with
  | none => rfl
  | some b =>
    obtain ⟨h1, h2⟩ := aminP_mem n b ha
    have h3 := cnt_rem (b := b) n h2
    rw [if_pos h1] at h3; omega
theorem cnt_some {t : Nat → Nat} {p : Nat → Bool} {n b : Nat} (h : aminP t p n = some b) : cnt (rem p b) n + 1 = cnt p n := by
  obtain ⟨h1, h2⟩ := aminP_mem n b h
  have h3 := cnt_rem (b := b) n h2
  rw [if_pos h1] at h3; exact h3
theorem cnt_pos {t : Nat → Nat} {p : Nat → Bool} {n : Nat} (h : aminP t p n = none) : cnt p n = 0 := by
  have h0 := aminP_none n h
  have : ∀ k, k ≤ n → cnt p k = 0 := by
    intro k
    induction k with
    | zero => intro _; rfl
    | succ k ih => intro hk; rw [cnt, ih (by omega), h0 k (by omega)]; rfl
  exact this n (Nat.le_refl n)
/-- the time of the best order of what is left, k of them -/
def bt (lg : Nat → Nat → Nat) (m : Nat) : Nat → (Nat → Bool) → Nat → Nat
  | 0, _, _ => 0
  | k + 1, p, a => match aminP (fun b => lg a b + bt lg m k (rem p b) b) p m with
    | none => 0
    | some b => lg a b + bt lg m k (rem p b) b
/-- the best order itself -/
def bo (lg : Nat → Nat → Nat) (m : Nat) : Nat → (Nat → Bool) → Nat → List Nat
  | 0, _, _ => []
  | k + 1, p, a => match aminP (fun b => lg a b + bt lg m k (rem p b) b) p m with
    | none => []
    | some b => b :: bo lg m k (rem p b) b
/-- the time of an order, from a on -/
def pt (lg : Nat → Nat → Nat) : Nat → List Nat → Nat
  | _, [] => 0
  | a, b :: r => lg a b + pt lg b r
def BT (lg : Nat → Nat → Nat) (m : Nat) (p : Nat → Bool) (a : Nat) : Nat := bt lg m (cnt p m) p a
def BO (lg : Nat → Nat → Nat) (m : Nat) (p : Nat → Bool) (a : Nat) : List Nat := bo lg m (cnt p m) p a
theorem bt_congr {lg : Nat → Nat → Nat} {m : Nat} : ∀ (k : Nat) {p q : Nat → Bool} (a : Nat), (∀ x, x < m → p x = q x) → bt lg m k p a = bt lg m k q a ∧ bo lg m k p a = bo lg m k q a
  | 0, _, _, _, _ => ⟨rfl, rfl⟩
  | k + 1, p, q, a, h => by
    have hr : ∀ b x, x < m → rem p b x = rem q b x := fun b x hx => by simp [rem, h x hx]
    have e : aminP (fun b => lg a b + bt lg m k (rem p b) b) p m = aminP (fun b => lg a b + bt lg m k (rem q b) b) q m :=
      aminP_congr m (fun x _ _ => by rw [(bt_congr k x (hr x)).1]) h
    rw [bt, bt, bo, bo, e]
    cases aminP (fun b => lg a b + bt lg m k (rem q b) b) q m with
    | none => exact ⟨rfl, rfl⟩
    | some b => exact ⟨by dsimp only; rw [(bt_congr k b (hr b)).1], by dsimp only; rw [(bt_congr k b (hr b)).2]⟩
theorem BT_congr {lg : Nat → Nat → Nat} {m : Nat} {p q : Nat → Bool} (a : Nat) (h : ∀ x, x < m → p x = q x) : BT lg m p a = BT lg m q a := by
  unfold BT; rw [cnt_congr m h]; exact (bt_congr _ a h).1
theorem BO_congr {lg : Nat → Nat → Nat} {m : Nat} {p q : Nat → Bool} (a : Nat) (h : ∀ x, x < m → p x = q x) : BO lg m p a = BO lg m q a := by
  unfold BO; rw [cnt_congr m h]; exact (bt_congr _ a h).2
theorem BT_none {lg : Nat → Nat → Nat} {m : Nat} {p : Nat → Bool} {a : Nat} {t : Nat → Nat} (h : aminP t p m = none) : BT lg m p a = 0 ∧ BO lg m p a = [] := by
  unfold BT BO; rw [cnt_pos h]; exact ⟨rfl, rfl⟩
theorem bt_t {lg : Nat → Nat → Nat} {m k : Nat} {p : Nat → Bool} {a : Nat} (hk : cnt p m = k + 1) : aminP (fun b => lg a b + bt lg m k (rem p b) b) p m = aminP (fun b => lg a b + BT lg m (rem p b) b) p m :=
  aminP_congr m (fun x hx hp => by
    have h3 := cnt_rem (b := x) m hp
    rw [if_pos hx] at h3
    unfold BT; rw [show cnt (rem p x) m = k by omega]) (fun _ _ => rfl)
theorem BT_some {lg : Nat → Nat → Nat} {m : Nat} {p : Nat → Bool} {a b : Nat} (h : aminP (fun b => lg a b + BT lg m (rem p b) b) p m = some b) : BT lg m p a = lg a b + BT lg m (rem p b) b ∧ BO lg m p a = b :: BO lg m (rem p b) b := by
  have hc := cnt_some h
  have e := bt_t (lg := lg) (a := a) (k := cnt (rem p b) m) (p := p) hc.symm
  have h2 := e.trans h
  constructor
  · conv => lhs; unfold BT
    rw [← hc, bt, h2]; rfl
  · conv => lhs; unfold BO
    rw [← hc, bo, h2]; rfl
theorem BT_bound {lg : Nat → Nat → Nat} {m c : Nat} (hb : ∀ a b, b < m → lg a b ≤ c) : ∀ (k : Nat) (p : Nat → Bool) (a : Nat), bt lg m k p a ≤ k * c
  | 0, _, _ => Nat.zero_le _
  | k + 1, p, a => by
    rw [bt]
    cases h : aminP (fun b => lg a b + bt lg m k (rem p b) b) p m with
    | none => exact Nat.zero_le _
    | some b =>
      dsimp only
      have h1 := hb a b (aminP_mem m b h).1
      have h2 := BT_bound hb k (rem p b) b
      rw [Nat.succ_mul]; omega
theorem pt_bo {lg : Nat → Nat → Nat} {m : Nat} : ∀ (k : Nat) (p : Nat → Bool) (a : Nat), pt lg a (bo lg m k p a) = bt lg m k p a
  | 0, _, _ => rfl
  | k + 1, p, a => by
    rw [bo, bt]
    cases h : aminP (fun b => lg a b + bt lg m k (rem p b) b) p m with
    | none => rfl
    | some b => dsimp only; rw [pt, pt_bo k]
theorem pt_BO {lg : Nat → Nat → Nat} {m : Nat} {p : Nat → Bool} {a : Nat} : pt lg a (BO lg m p a) = BT lg m p a := pt_bo _ _ _
theorem bo_mem {lg : Nat → Nat → Nat} {m : Nat} : ∀ (k : Nat) (p : Nat → Bool) (a x : Nat), x ∈ bo lg m k p a → x < m ∧ p x = true
  | 0, _, _, _, h => by cases h
  | k + 1, p, a, x, h => by
    rw [bo] at h
    cases ha : aminP (fun b => lg a b + bt lg m k (rem p b) b) p m with
    | none => rw [ha] at h; cases h
    | some b =>
      rw [ha] at h
      rcases List.mem_cons.mp h with e | h
      · rw [e]; exact aminP_mem m b ha
      · obtain ⟨h1, h2⟩ := bo_mem k (rem p b) b x h
        exact ⟨h1, by simp only [rem, Bool.and_eq_true] at h2; exact h2.1⟩
theorem BO_len {lg : Nat → Nat → Nat} {m : Nat} : ∀ (k : Nat) (p : Nat → Bool) (a : Nat), cnt p m = k → (bo lg m k p a).length = k
  | 0, _, _, _ => rfl
  | k + 1, p, a, hk => by
    rw [bo]
    cases ha : aminP (fun b => lg a b + bt lg m k (rem p b) b) p m with
    | none => have := cnt_pos ha; omega
    | some b =>
      have h2 := cnt_some ha
      dsimp only
      rw [List.length_cons, BO_len k (rem p b) b (by omega)]
theorem BO_length {lg : Nat → Nat → Nat} {m : Nat} {p : Nat → Bool} {a : Nat} : (BO lg m p a).length = cnt p m := BO_len _ _ _ rfl
theorem BO_mem {lg : Nat → Nat → Nat} {m : Nat} {p : Nat → Bool} {a x : Nat} (h : x ∈ BO lg m p a) : x < m ∧ p x = true := bo_mem _ _ _ _ h
theorem cnt_all : ∀ (n : Nat), cnt (fun _ => true) n = n
  | 0 => rfl
  | n + 1 => by rw [cnt, cnt_all n]; rfl
/-- what is left, by a number whose bits are what was read -/
def np (r : Nat) : Nat → Bool := fun x => !r.testBit x
theorem np_or {r b : Nat} (x : Nat) : np (r ||| 2 ^ b) x = rem (np r) b x := by
  unfold np rem
  rw [Nat.testBit_or, Nat.testBit_two_pow]
  by_cases e : x = b
  · rw [e]; simp
  · have e2 : ¬ b = x := fun q => e q.symm
    simp [e, e2]
theorem np_gt {r b : Nat} (h : np r b = true) : r < r ||| 2 ^ b := by
  rcases Nat.lt_or_ge r (r ||| 2 ^ b) with q | q
  · exact q
  · have h1 : r ≤ r ||| 2 ^ b := Nat.left_le_or
    have e : r ||| 2 ^ b = r := by omega
    have h2 : (r ||| 2 ^ b).testBit b = true := by rw [Nat.testBit_or, Nat.testBit_two_pow_self]; simp
    rw [e] at h2
    simp [np, h2] at h
theorem zshl : ∀ c, c < 32 → nI 1 <<< (nI c &&& 31) = nI (2 ^ c) := by decide +kernel
theorem zor (a b : Nat) : nI a ||| nI b = nI (a ||| b) := by
  rw [← Int32.toBitVec_inj]
  show BitVec.ofNat 32 a ||| BitVec.ofNat 32 b = BitVec.ofNat 32 (a ||| b)
  rw [BitVec.ofNat_or]
theorem zshr {n k : Nat} (h : n < 2 ^ 31) (hk : k < 32) : nI n >>> (nI k &&& 31) = nI (n / 2 ^ k) := by
  have : ∀ k, k < 32 → ((nI k &&& 31).toBitVec.smod 32).toNat = k := by decide +kernel
  exact pk_shrN h _ k (this k hk)
theorem np_bit {r b : Nat} : np r b = decide (r / 2 ^ b % 2 = 0) := by
  simp only [np, Nat.testBit_eq_decide_div_mod_eq]
  rcases Nat.mod_two_eq_zero_or_one (r / 2 ^ b) with h | h <;> simp [h]
theorem BT_eq {lg : Nat → Nat → Nat} {m : Nat} {p : Nat → Bool} {a : Nat} : BT lg m p a = match aminP (fun b => lg a b + BT lg m (rem p b) b) p m with | none => 0 | some b => lg a b + BT lg m (rem p b) b := by
  cases h : aminP (fun b => lg a b + BT lg m (rem p b) b) p m with
  | none => exact (BT_none h).1
  | some b => exact (BT_some h).1
theorem BT_le {lg : Nat → Nat → Nat} {m c : Nat} (hb : ∀ a b, b < m → lg a b ≤ c) (p : Nat → Bool) (a : Nat) : BT lg m p a ≤ m * c :=
  Nat.le_trans (BT_bound hb _ p a) (Nat.mul_le_mul_right c (cnt_le m))
theorem np_or' {r b : Nat} : np (r ||| 2 ^ b) = rem (np r) b := funext np_or
theorem np_0 : np 0 = fun _ => true := by funext x; simp [np]
theorem drop_getD {L : List Nat} {i : Nat} (h : i < L.length) : L.drop i = L.getD i 0 :: L.drop (i + 1) := by
  rw [List.drop_eq_getElem_cons h, List.getD_eq_getElem?_getD, List.getElem?_eq_getElem h]; rfl
theorem getD_mem {L : List Nat} {i : Nat} (h : i < L.length) : L.getD i 0 ∈ L := by
  rw [List.getD_eq_getElem?_getD, List.getElem?_eq_getElem h]; exact List.getElem_mem h
theorem pow7 {c : Nat} (h : c ≤ 7) : 2 ^ c ≤ 128 := Nat.pow_le_pow_right (by omega) h
theorem pt_le {lg : Nat → Nat → Nat} {c : Nat} (hb : ∀ a b, lg a b ≤ c) : ∀ (L : List Nat) (a : Nat), pt lg a L ≤ L.length * c
  | [], _ => Nat.zero_le _
  | b :: r, a => by
    have h1 := hb a b
    have h2 := pt_le hb r b
    rw [pt, List.length_cons, Nat.succ_mul]; omega
end
section
/-! rows that are swapped, orders by insertion, all orders: pure -/
def lswap (l : List Nat) (a b : Nat) : List Nat := (l.set a (l.getD b 0)).set b (l.getD a 0)
theorem lswap_len (l : List Nat) (a b : Nat) : (lswap l a b).length = l.length := by simp [lswap]
theorem lswap_down : ∀ (q : Nat) (l : List Nat) (j : Nat), q < l.length → lswap (l.insertIdx (q + 1) j) q (q + 1) = l.insertIdx q j
  | 0, [], _, h => absurd h (Nat.not_lt_zero _)
  | 0, a :: l, j, _ => rfl
  | q + 1, [], _, h => absurd h (Nat.not_lt_zero _)
  | q + 1, a :: l, j, h => by
    have ih := lswap_down q l j (by simpa using h)
    rw [List.insertIdx_succ_cons, List.insertIdx_succ_cons, ← ih]; rfl
theorem lswap_up : ∀ (q : Nat) (l : List Nat) (j : Nat), q < l.length → lswap (l.insertIdx q j) q (q + 1) = l.insertIdx (q + 1) j
  | 0, [], _, h => absurd h (Nat.not_lt_zero _)
  | 0, a :: l, j, _ => rfl
  | q + 1, [], _, h => absurd h (Nat.not_lt_zero _)
  | q + 1, a :: l, j, h => by
    have ih := lswap_up q l j (by simpa using h)
    rw [List.insertIdx_succ_cons, List.insertIdx_succ_cons, ← ih]; rfl
theorem colF_in {f0 : Nat → Int32} {l : List Nat} {i : Nat} (h : i < l.length) : colF f0 l i = nI (l.getD i 0) := by unfold colF; rw [if_pos h]
theorem colF_set {f0 : Nat → Int32} {l : List Nat} {i : Nat} (h : i < l.length) (v : Nat) : upd (colF f0 l) i (nI v) = colF f0 (l.set i v) := by
  funext k
  by_cases e : k = i
  · subst e
    rw [pk_us]; unfold colF
    rw [if_pos (by rw [List.length_set]; exact h), List.getD_eq_getElem?_getD, List.getElem?_set_self h]; rfl
  · rw [pk_un e]; unfold colF
    rw [List.length_set, List.getD_eq_getElem?_getD, List.getD_eq_getElem?_getD, List.getElem?_set_ne (Ne.symm e)]
theorem colF_swap {f0 : Nat → Int32} {l : List Nat} {a b : Nat} (ha : a < l.length) (hb : b < l.length) : upd (upd (colF f0 l) a (nI (l.getD b 0))) b (nI (l.getD a 0)) = colF f0 (lswap l a b) := by
  rw [colF_set ha, colF_set (by rw [List.length_set]; exact hb)]; rfl
theorem insertIdx_end (l : List Nat) (j : Nat) : l.insertIdx l.length j = l ++ [j] := by
  induction l with
  | nil => rfl
  | cons a l ih => rw [List.length_cons, List.insertIdx_succ_cons, ih]; rfl
theorem insertIdx_mem : ∀ (q : Nat) (l : List Nat) (j x : Nat), x ∈ l.insertIdx q j → x ∈ l ∨ x = j
  | 0, l, j, x, h => by
    rcases List.mem_cons.mp h with e | e
    · exact Or.inr e
    · exact Or.inl e
  | q + 1, [], j, x, h => by cases h
  | q + 1, a :: l, j, x, h => by
    rw [List.insertIdx_succ_cons] at h
    rcases List.mem_cons.mp h with e | e
    · exact Or.inl (by rw [e]; exact List.mem_cons_self)
    · rcases insertIdx_mem q l j x e with e | e
      · exact Or.inl (List.mem_cons_of_mem _ e)
      · exact Or.inr e
/-- the least place of all -/
def ipos (lg : Nat → Nat → Nat) (l : List Nat) (j : Nat) : Nat := (aminP (fun q => pt lg 7 (l.insertIdx q j)) (fun _ => true) (l.length + 1)).getD 0
def ins (lg : Nat → Nat → Nat) (l : List Nat) (j : Nat) : List Nat := l.insertIdx (ipos lg l j) j
def insL (lg : Nat → Nat → Nat) : Nat → List Nat
  | 0 => []
  | k + 1 => ins lg (insL lg k) k
theorem aminP_uniq {t : Nat → Nat} {n b : Nat} (hb : b < n) (h1 : ∀ x, x < n → t b ≤ t x) (h2 : ∀ x, x < b → t b < t x) : aminP t (fun _ => true) n = some b := by
  rcases h : aminP t (fun _ => true) n with _ | c
  · have := aminP_none n h b hb; cases this
  · obtain ⟨hc, -⟩ := aminP_mem n c h
    obtain ⟨g1, g2⟩ := aminP_least n c h
    have k1 := h1 c hc
    have k2 := g1 b hb rfl
    rcases Nat.lt_trichotomy b c with e | e | e
    · have := g2 b e rfl; omega
    · rw [e]
    · have := h2 c e; omega
theorem ipos_of {lg : Nat → Nat → Nat} {l : List Nat} {j b : Nat} (hb : b ≤ l.length) (h1 : ∀ x, x ≤ l.length → pt lg 7 (l.insertIdx b j) ≤ pt lg 7 (l.insertIdx x j)) (h2 : ∀ x, x < b → pt lg 7 (l.insertIdx b j) < pt lg 7 (l.insertIdx x j)) : ipos lg l j = b := by
  unfold ipos
  rw [aminP_uniq (t := fun q => pt lg 7 (l.insertIdx q j)) (b := b) (by omega) (fun x hx => h1 x (by omega)) h2]; rfl
theorem ipos_le {lg : Nat → Nat → Nat} {l : List Nat} {j : Nat} : ipos lg l j ≤ l.length := by
  unfold ipos
  rcases h : aminP (fun q => pt lg 7 (l.insertIdx q j)) (fun _ => true) (l.length + 1) with _ | c
  · exact Nat.zero_le _
  · have := (aminP_mem _ c h).1
    show c ≤ l.length; omega
theorem ins_len {lg : Nat → Nat → Nat} {l : List Nat} {j : Nat} : (ins lg l j).length = l.length + 1 := List.length_insertIdx_of_le_length ipos_le j
theorem insL_len {lg : Nat → Nat → Nat} : ∀ k, (insL lg k).length = k
  | 0 => rfl
  | k + 1 => by rw [insL, ins_len, insL_len k]
theorem insL_mem {lg : Nat → Nat → Nat} : ∀ (k x : Nat), x ∈ insL lg k → x < k
  | 0, x, h => by cases h
  | k + 1, x, h => by
    rcases insertIdx_mem _ _ _ _ h with e | e
    · have := insL_mem k x e; omega
    · omega
/-! all orders, one behind the other -/
def lexL : Nat → List Nat → List (List Nat)
  | 0, _ => [[]]
  | k + 1, R => R.flatMap (fun b => (lexL k (R.filter (fun x => !(x == b)))).map (fun r => b :: r))
def tf (l : List Nat) : Nat → Nat
  | 0 => 0
  | k + 1 => if l.getD (k + 1) 0 < l.getD k 0 then tf l k else k + 1
def lf (l : List Nat) (t : Nat) : Nat → Nat
  | 0 => 0
  | j + 1 => if t < j + 1 ∧ l.getD (j + 1) 0 < l.getD t 0 then lf l t j else j + 1
def rv : Nat → Nat → Nat → List Nat → List Nat
  | 0, _, _, l => l
  | n + 1, lo, hi, l => if lo < hi then rv n (lo + 1) (hi - 1) (lswap l lo hi) else l
/-- the next order, as in a dictionary -/
def adv (m : Nat) (l : List Nat) : Option (List Nat) :=
  if tf l (m - 1) = 0 then none
  else some (rv m (tf l (m - 1)) (m - 1) (lswap l (tf l (m - 1) - 1) (lf l (tf l (m - 1) - 1) (m - 1))))
def chk (m : Nat) : List (List Nat) → Bool
  | [] => true
  | [l] => decide (adv m l = none)
  | l :: b :: r => decide (adv m l = some b) && chk m (b :: r)
def lexOk (m : Nat) : Bool := chk m (lexL m (List.range m)) && decide ((lexL m (List.range m)).length ≤ 5040) && decide ((lexL m (List.range m)).head? = some (List.range m)) && (lexL m (List.range m)).all (fun l => decide (l.length = m) && l.all (fun x => decide (x < m)))
set_option maxRecDepth 100000 in
set_option maxHeartbeats 4000000 in
theorem lexOk_0 : lexOk 0 = true ∧ lexOk 1 = true ∧ lexOk 2 = true ∧ lexOk 3 = true ∧ lexOk 4 = true ∧ lexOk 5 = true := by decide +kernel
set_option maxRecDepth 100000 in
set_option maxHeartbeats 4000000 in
theorem lexOk_6 : lexOk 6 = true := by decide +kernel
set_option maxRecDepth 100000 in
set_option maxHeartbeats 4000000 in
theorem lexOk_7 : lexOk 7 = true := by decide +kernel
theorem lexOk_all {m : Nat} (h : m ≤ 7) : lexOk m = true := by
  obtain ⟨h0, h1, h2, h3, h4, h5⟩ := lexOk_0
  have : m = 0 ∨ m = 1 ∨ m = 2 ∨ m = 3 ∨ m = 4 ∨ m = 5 ∨ m = 6 ∨ m = 7 := by omega
  rcases this with e | e | e | e | e | e | e | e <;> rw [e]
  · exact h0
  · exact h1
  · exact h2
  · exact h3
  · exact h4
  · exact h5
  · exact lexOk_6
  · exact lexOk_7
end
