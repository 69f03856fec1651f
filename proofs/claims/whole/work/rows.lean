section
-- ===== PART A: goes FIRST, ahead of the names: the tables' words, and 'selects' of the private methods out of them =====
/-- a private method of a class that the tables say can be made, by its rows of tables_1 -/
def lw_okq (q : MethodName × Nat) : Prop := (q.1.cls ≠ "java/lang/invoke/MethodHandle" ∧ q.1.cls ≠ "java/lang/invoke/VarHandle") ∧ Cond.instantiable q.1.cls q.2 ∈ tables_1 ∧ Cond.privateMethod q.1 ∈ tables_1 ∧ Cond.instanceMethod q.1 ∈ tables_1
theorem lw_p0 : lw_okq (⟨"TrainBook", "trainOf", "(I)LTrainBook$Train;"⟩, 6) := ⟨⟨by decide +kernel, by decide +kernel⟩, List.mem_of_getElem? (i := 15) (by decide +kernel), List.mem_of_getElem? (i := 274) (by decide +kernel), List.mem_of_getElem? (i := 275) (by decide +kernel)⟩
theorem lw_p1 : lw_okq (⟨"TrainBook", "aboutBook", "(I)I"⟩, 6) := ⟨⟨by decide +kernel, by decide +kernel⟩, List.mem_of_getElem? (i := 15) (by decide +kernel), List.mem_of_getElem? (i := 330) (by decide +kernel), List.mem_of_getElem? (i := 331) (by decide +kernel)⟩
theorem lw_p2 : lw_okq (⟨"TrainBook$SignBook", "unionOf", "(I)I"⟩, 1) := ⟨⟨by decide +kernel, by decide +kernel⟩, List.mem_of_getElem? (i := 25) (by decide +kernel), List.mem_of_getElem? (i := 354) (by decide +kernel), List.mem_of_getElem? (i := 355) (by decide +kernel)⟩
theorem lw_p3 : lw_okq (⟨"TrainBook", "canBeTable", "(I)Z"⟩, 6) := ⟨⟨by decide +kernel, by decide +kernel⟩, List.mem_of_getElem? (i := 15) (by decide +kernel), List.mem_of_getElem? (i := 375) (by decide +kernel), List.mem_of_getElem? (i := 376) (by decide +kernel)⟩
theorem lw_p4 : lw_okq (⟨"TrainBook$Table", "takeMembers", "([LTrainBook$Train;I)V"⟩, 7) := ⟨⟨by decide +kernel, by decide +kernel⟩, List.mem_of_getElem? (i := 36) (by decide +kernel), List.mem_of_getElem? (i := 383) (by decide +kernel), List.mem_of_getElem? (i := 384) (by decide +kernel)⟩
theorem lw_p5 : lw_okq (⟨"TrainBook$RowSearch", "prepare", "([LTrainBook$Train;I)V"⟩, 9) := ⟨⟨by decide +kernel, by decide +kernel⟩, List.mem_of_getElem? (i := 43) (by decide +kernel), List.mem_of_getElem? (i := 398) (by decide +kernel), List.mem_of_getElem? (i := 399) (by decide +kernel)⟩
theorem lw_p6 : lw_okq (⟨"TrainBook$RowSearch", "readStops", "(LTrainBook$Train;I)V"⟩, 9) := ⟨⟨by decide +kernel, by decide +kernel⟩, List.mem_of_getElem? (i := 43) (by decide +kernel), List.mem_of_getElem? (i := 402) (by decide +kernel), List.mem_of_getElem? (i := 403) (by decide +kernel)⟩
theorem lw_p7 : lw_okq (⟨"TrainBook$RowSearch", "fillPair", "(ILTrainBook$Train;LTrainBook$Train;)V"⟩, 9) := ⟨⟨by decide +kernel, by decide +kernel⟩, List.mem_of_getElem? (i := 43) (by decide +kernel), List.mem_of_getElem? (i := 406) (by decide +kernel), List.mem_of_getElem? (i := 407) (by decide +kernel)⟩
theorem lw_p8 : lw_okq (⟨"TrainBook$RowSearch", "openKnown", "(I)V"⟩, 9) := ⟨⟨by decide +kernel, by decide +kernel⟩, List.mem_of_getElem? (i := 43) (by decide +kernel), List.mem_of_getElem? (i := 411) (by decide +kernel), List.mem_of_getElem? (i := 412) (by decide +kernel)⟩
theorem lw_p9 : lw_okq (⟨"TrainBook$RowSearch", "needOf", "(I)I"⟩, 9) := ⟨⟨by decide +kernel, by decide +kernel⟩, List.mem_of_getElem? (i := 43) (by decide +kernel), List.mem_of_getElem? (i := 417) (by decide +kernel), List.mem_of_getElem? (i := 418) (by decide +kernel)⟩
theorem lw_p10 : lw_okq (⟨"TrainBook$RowSearch", "leastNeed", "(I)I"⟩, 9) := ⟨⟨by decide +kernel, by decide +kernel⟩, List.mem_of_getElem? (i := 43) (by decide +kernel), List.mem_of_getElem? (i := 421) (by decide +kernel), List.mem_of_getElem? (i := 422) (by decide +kernel)⟩
theorem lw_p11 : lw_okq (⟨"TrainBook$RowSearch", "placeOf", "(II)I"⟩, 9) := ⟨⟨by decide +kernel, by decide +kernel⟩, List.mem_of_getElem? (i := 43) (by decide +kernel), List.mem_of_getElem? (i := 425) (by decide +kernel), List.mem_of_getElem? (i := 426) (by decide +kernel)⟩
theorem lw_p12 : lw_okq (⟨"TrainBook$RowSearch", "pairNeedAt", "(III)I"⟩, 9) := ⟨⟨by decide +kernel, by decide +kernel⟩, List.mem_of_getElem? (i := 43) (by decide +kernel), List.mem_of_getElem? (i := 430) (by decide +kernel), List.mem_of_getElem? (i := 431) (by decide +kernel)⟩
theorem lw_p13 : lw_okq (⟨"TrainBook$RowSearch", "keep", "(II)V"⟩, 9) := ⟨⟨by decide +kernel, by decide +kernel⟩, List.mem_of_getElem? (i := 43) (by decide +kernel), List.mem_of_getElem? (i := 437) (by decide +kernel), List.mem_of_getElem? (i := 438) (by decide +kernel)⟩
theorem lw_p14 : lw_okq (⟨"TrainBook$RowSearch", "nextStations", "(I)I"⟩, 9) := ⟨⟨by decide +kernel, by decide +kernel⟩, List.mem_of_getElem? (i := 43) (by decide +kernel), List.mem_of_getElem? (i := 444) (by decide +kernel), List.mem_of_getElem? (i := 445) (by decide +kernel)⟩
theorem lw_p15 : lw_okq (⟨"TrainBook$RowSearch", "passed", "(II)I"⟩, 9) := ⟨⟨by decide +kernel, by decide +kernel⟩, List.mem_of_getElem? (i := 43) (by decide +kernel), List.mem_of_getElem? (i := 448) (by decide +kernel), List.mem_of_getElem? (i := 449) (by decide +kernel)⟩
def lw_privs_1 : List (MethodName × Nat) := [(⟨"TrainBook", "trainOf", "(I)LTrainBook$Train;"⟩, 6), (⟨"TrainBook", "aboutBook", "(I)I"⟩, 6), (⟨"TrainBook$SignBook", "unionOf", "(I)I"⟩, 1), (⟨"TrainBook", "canBeTable", "(I)Z"⟩, 6), (⟨"TrainBook$Table", "takeMembers", "([LTrainBook$Train;I)V"⟩, 7), (⟨"TrainBook$RowSearch", "prepare", "([LTrainBook$Train;I)V"⟩, 9), (⟨"TrainBook$RowSearch", "readStops", "(LTrainBook$Train;I)V"⟩, 9), (⟨"TrainBook$RowSearch", "fillPair", "(ILTrainBook$Train;LTrainBook$Train;)V"⟩, 9), (⟨"TrainBook$RowSearch", "openKnown", "(I)V"⟩, 9), (⟨"TrainBook$RowSearch", "needOf", "(I)I"⟩, 9), (⟨"TrainBook$RowSearch", "leastNeed", "(I)I"⟩, 9), (⟨"TrainBook$RowSearch", "placeOf", "(II)I"⟩, 9), (⟨"TrainBook$RowSearch", "pairNeedAt", "(III)I"⟩, 9), (⟨"TrainBook$RowSearch", "keep", "(II)V"⟩, 9), (⟨"TrainBook$RowSearch", "nextStations", "(I)I"⟩, 9), (⟨"TrainBook$RowSearch", "passed", "(II)I"⟩, 9)]
theorem lw_r1 : ∀ q ∈ lw_privs_1, lw_okq q := List.forall_mem_cons.mpr ⟨lw_p0, List.forall_mem_cons.mpr ⟨lw_p1, List.forall_mem_cons.mpr ⟨lw_p2, List.forall_mem_cons.mpr ⟨lw_p3, List.forall_mem_cons.mpr ⟨lw_p4, List.forall_mem_cons.mpr ⟨lw_p5, List.forall_mem_cons.mpr ⟨lw_p6, List.forall_mem_cons.mpr ⟨lw_p7, List.forall_mem_cons.mpr ⟨lw_p8, List.forall_mem_cons.mpr ⟨lw_p9, List.forall_mem_cons.mpr ⟨lw_p10, List.forall_mem_cons.mpr ⟨lw_p11, List.forall_mem_cons.mpr ⟨lw_p12, List.forall_mem_cons.mpr ⟨lw_p13, List.forall_mem_cons.mpr ⟨lw_p14, List.forall_mem_cons.mpr ⟨lw_p15, fun _ h => absurd h List.not_mem_nil⟩⟩⟩⟩⟩⟩⟩⟩⟩⟩⟩⟩⟩⟩⟩⟩
theorem lw_p16 : lw_okq (⟨"TrainBook$Table", "placeStops", "(I)V"⟩, 7) := ⟨⟨by decide +kernel, by decide +kernel⟩, List.mem_of_getElem? (i := 36) (by decide +kernel), List.mem_of_getElem? (i := 452) (by decide +kernel), List.mem_of_getElem? (i := 453) (by decide +kernel)⟩
theorem lw_p17 : lw_okq (⟨"TrainBook$ColumnOrder", "breachedBy", "([LTrainBook$Train;I)I"⟩, 6) := ⟨⟨by decide +kernel, by decide +kernel⟩, List.mem_of_getElem? (i := 79) (by decide +kernel), List.mem_of_getElem? (i := 460) (by decide +kernel), List.mem_of_getElem? (i := 461) (by decide +kernel)⟩
theorem lw_p18 : lw_okq (⟨"TrainBook$Train", "leaves", "(I)I"⟩, 6) := ⟨⟨by decide +kernel, by decide +kernel⟩, List.mem_of_getElem? (i := 124) (by decide +kernel), List.mem_of_getElem? (i := 468) (by decide +kernel), List.mem_of_getElem? (i := 469) (by decide +kernel)⟩
theorem lw_p19 : lw_okq (⟨"TrainBook$ColumnOrder", "fillFewest", "()V"⟩, 6) := ⟨⟨by decide +kernel, by decide +kernel⟩, List.mem_of_getElem? (i := 79) (by decide +kernel), List.mem_of_getElem? (i := 476) (by decide +kernel), List.mem_of_getElem? (i := 477) (by decide +kernel)⟩
theorem lw_p20 : lw_okq (⟨"TrainBook$ColumnOrder", "fewestWith", "(II)I"⟩, 6) := ⟨⟨by decide +kernel, by decide +kernel⟩, List.mem_of_getElem? (i := 79) (by decide +kernel), List.mem_of_getElem? (i := 480) (by decide +kernel), List.mem_of_getElem? (i := 481) (by decide +kernel)⟩
theorem lw_p21 : lw_okq (⟨"TrainBook$ColumnOrder", "setOrder", "()V"⟩, 6) := ⟨⟨by decide +kernel, by decide +kernel⟩, List.mem_of_getElem? (i := 79) (by decide +kernel), List.mem_of_getElem? (i := 486) (by decide +kernel), List.mem_of_getElem? (i := 487) (by decide +kernel)⟩
theorem lw_p22 : lw_okq (⟨"TrainBook$ColumnOrder", "firstBehind", "(I)I"⟩, 6) := ⟨⟨by decide +kernel, by decide +kernel⟩, List.mem_of_getElem? (i := 79) (by decide +kernel), List.mem_of_getElem? (i := 490) (by decide +kernel), List.mem_of_getElem? (i := 491) (by decide +kernel)⟩
theorem lw_p23 : lw_okq (⟨"TrainBook$Table", "planLanes", "()V"⟩, 7) := ⟨⟨by decide +kernel, by decide +kernel⟩, List.mem_of_getElem? (i := 36) (by decide +kernel), List.mem_of_getElem? (i := 494) (by decide +kernel), List.mem_of_getElem? (i := 495) (by decide +kernel)⟩
theorem lw_p24 : lw_okq (⟨"TrainBook$Table", "firstRow", "(I)I"⟩, 7) := ⟨⟨by decide +kernel, by decide +kernel⟩, List.mem_of_getElem? (i := 36) (by decide +kernel), List.mem_of_getElem? (i := 503) (by decide +kernel), List.mem_of_getElem? (i := 504) (by decide +kernel)⟩
theorem lw_p25 : lw_okq (⟨"TrainBook$Table", "lastRow", "(I)I"⟩, 7) := ⟨⟨by decide +kernel, by decide +kernel⟩, List.mem_of_getElem? (i := 36) (by decide +kernel), List.mem_of_getElem? (i := 507) (by decide +kernel), List.mem_of_getElem? (i := 508) (by decide +kernel)⟩
theorem lw_p26 : lw_okq (⟨"TrainBook$WayFinder", "soonestAt", "(III)I"⟩, 16) := ⟨⟨by decide +kernel, by decide +kernel⟩, List.mem_of_getElem? (i := 187) (by decide +kernel), List.mem_of_getElem? (i := 604) (by decide +kernel), List.mem_of_getElem? (i := 605) (by decide +kernel)⟩
theorem lw_p27 : lw_okq (⟨"TrainBook$WayFinder", "ride", "(LTrainBook$Train;)Z"⟩, 16) := ⟨⟨by decide +kernel, by decide +kernel⟩, List.mem_of_getElem? (i := 187) (by decide +kernel), List.mem_of_getElem? (i := 614) (by decide +kernel), List.mem_of_getElem? (i := 615) (by decide +kernel)⟩
theorem lw_p28 : lw_okq (⟨"TrainBook$WayFinder", "countLegs", "(III)V"⟩, 16) := ⟨⟨by decide +kernel, by decide +kernel⟩, List.mem_of_getElem? (i := 187) (by decide +kernel), List.mem_of_getElem? (i := 618) (by decide +kernel), List.mem_of_getElem? (i := 619) (by decide +kernel)⟩
theorem lw_p29 : lw_okq (⟨"TrainBook$WayFinder", "lastBoardTo", "(LTrainBook$Train;I)I"⟩, 16) := ⟨⟨by decide +kernel, by decide +kernel⟩, List.mem_of_getElem? (i := 187) (by decide +kernel), List.mem_of_getElem? (i := 622) (by decide +kernel), List.mem_of_getElem? (i := 623) (by decide +kernel)⟩
theorem lw_p30 : lw_okq (⟨"TrainBook$WayFinder", "firstTrain", "(II)I"⟩, 16) := ⟨⟨by decide +kernel, by decide +kernel⟩, List.mem_of_getElem? (i := 187) (by decide +kernel), List.mem_of_getElem? (i := 626) (by decide +kernel), List.mem_of_getElem? (i := 627) (by decide +kernel)⟩
theorem lw_p31 : lw_okq (⟨"TrainBook$WayFinder", "lastBoardBefore", "(LTrainBook$Train;I)I"⟩, 16) := ⟨⟨by decide +kernel, by decide +kernel⟩, List.mem_of_getElem? (i := 187) (by decide +kernel), List.mem_of_getElem? (i := 630) (by decide +kernel), List.mem_of_getElem? (i := 631) (by decide +kernel)⟩
def lw_privs_2 : List (MethodName × Nat) := [(⟨"TrainBook$Table", "placeStops", "(I)V"⟩, 7), (⟨"TrainBook$ColumnOrder", "breachedBy", "([LTrainBook$Train;I)I"⟩, 6), (⟨"TrainBook$Train", "leaves", "(I)I"⟩, 6), (⟨"TrainBook$ColumnOrder", "fillFewest", "()V"⟩, 6), (⟨"TrainBook$ColumnOrder", "fewestWith", "(II)I"⟩, 6), (⟨"TrainBook$ColumnOrder", "setOrder", "()V"⟩, 6), (⟨"TrainBook$ColumnOrder", "firstBehind", "(I)I"⟩, 6), (⟨"TrainBook$Table", "planLanes", "()V"⟩, 7), (⟨"TrainBook$Table", "firstRow", "(I)I"⟩, 7), (⟨"TrainBook$Table", "lastRow", "(I)I"⟩, 7), (⟨"TrainBook$WayFinder", "soonestAt", "(III)I"⟩, 16), (⟨"TrainBook$WayFinder", "ride", "(LTrainBook$Train;)Z"⟩, 16), (⟨"TrainBook$WayFinder", "countLegs", "(III)V"⟩, 16), (⟨"TrainBook$WayFinder", "lastBoardTo", "(LTrainBook$Train;I)I"⟩, 16), (⟨"TrainBook$WayFinder", "firstTrain", "(II)I"⟩, 16), (⟨"TrainBook$WayFinder", "lastBoardBefore", "(LTrainBook$Train;I)I"⟩, 16)]
theorem lw_r2 : ∀ q ∈ lw_privs_2, lw_okq q := List.forall_mem_cons.mpr ⟨lw_p16, List.forall_mem_cons.mpr ⟨lw_p17, List.forall_mem_cons.mpr ⟨lw_p18, List.forall_mem_cons.mpr ⟨lw_p19, List.forall_mem_cons.mpr ⟨lw_p20, List.forall_mem_cons.mpr ⟨lw_p21, List.forall_mem_cons.mpr ⟨lw_p22, List.forall_mem_cons.mpr ⟨lw_p23, List.forall_mem_cons.mpr ⟨lw_p24, List.forall_mem_cons.mpr ⟨lw_p25, List.forall_mem_cons.mpr ⟨lw_p26, List.forall_mem_cons.mpr ⟨lw_p27, List.forall_mem_cons.mpr ⟨lw_p28, List.forall_mem_cons.mpr ⟨lw_p29, List.forall_mem_cons.mpr ⟨lw_p30, List.forall_mem_cons.mpr ⟨lw_p31, fun _ h => absurd h List.not_mem_nil⟩⟩⟩⟩⟩⟩⟩⟩⟩⟩⟩⟩⟩⟩⟩⟩
theorem lw_p32 : lw_okq (⟨"TrainBook$WayFinder", "canChange", "(LTrainBook$Train;ILTrainBook$Train;I)Z"⟩, 16) := ⟨⟨by decide +kernel, by decide +kernel⟩, List.mem_of_getElem? (i := 187) (by decide +kernel), List.mem_of_getElem? (i := 634) (by decide +kernel), List.mem_of_getElem? (i := 635) (by decide +kernel)⟩
theorem lw_p33 : lw_okq (⟨"TrainBook$WayFinder", "chooseTrains", "(II)V"⟩, 16) := ⟨⟨by decide +kernel, by decide +kernel⟩, List.mem_of_getElem? (i := 187) (by decide +kernel), List.mem_of_getElem? (i := 638) (by decide +kernel), List.mem_of_getElem? (i := 639) (by decide +kernel)⟩
theorem lw_p34 : lw_okq (⟨"TrainBook$WayFinder", "chooseTrain", "(I)V"⟩, 16) := ⟨⟨by decide +kernel, by decide +kernel⟩, List.mem_of_getElem? (i := 187) (by decide +kernel), List.mem_of_getElem? (i := 643) (by decide +kernel), List.mem_of_getElem? (i := 644) (by decide +kernel)⟩
theorem lw_p35 : lw_okq (⟨"TrainBook$WayFinder", "firstBoard", "(LTrainBook$Train;ILTrainBook$Train;I)I"⟩, 16) := ⟨⟨by decide +kernel, by decide +kernel⟩, List.mem_of_getElem? (i := 187) (by decide +kernel), List.mem_of_getElem? (i := 647) (by decide +kernel), List.mem_of_getElem? (i := 648) (by decide +kernel)⟩
theorem lw_p36 : lw_okq (⟨"TrainBook$WayFinder", "chooseStations", "(II)V"⟩, 16) := ⟨⟨by decide +kernel, by decide +kernel⟩, List.mem_of_getElem? (i := 187) (by decide +kernel), List.mem_of_getElem? (i := 652) (by decide +kernel), List.mem_of_getElem? (i := 653) (by decide +kernel)⟩
theorem lw_p37 : lw_okq (⟨"TrainBook$WayFinder", "limitBefore", "(LTrainBook$Train;LTrainBook$Train;I)I"⟩, 16) := ⟨⟨by decide +kernel, by decide +kernel⟩, List.mem_of_getElem? (i := 187) (by decide +kernel), List.mem_of_getElem? (i := 656) (by decide +kernel), List.mem_of_getElem? (i := 657) (by decide +kernel)⟩
theorem lw_p38 : lw_okq (⟨"TrainBook$WayFinder", "leastChange", "(I)I"⟩, 16) := ⟨⟨by decide +kernel, by decide +kernel⟩, List.mem_of_getElem? (i := 187) (by decide +kernel), List.mem_of_getElem? (i := 660) (by decide +kernel), List.mem_of_getElem? (i := 661) (by decide +kernel)⟩
theorem lw_p39 : lw_okq (⟨"TrainBook$WayFinder", "readLeg", "(II)I"⟩, 16) := ⟨⟨by decide +kernel, by decide +kernel⟩, List.mem_of_getElem? (i := 187) (by decide +kernel), List.mem_of_getElem? (i := 668) (by decide +kernel), List.mem_of_getElem? (i := 669) (by decide +kernel)⟩
theorem lw_p40 : lw_okq (⟨"TrainBook$WayFinder", "collectMinutes", "(I)V"⟩, 16) := ⟨⟨by decide +kernel, by decide +kernel⟩, List.mem_of_getElem? (i := 187) (by decide +kernel), List.mem_of_getElem? (i := 680) (by decide +kernel), List.mem_of_getElem? (i := 681) (by decide +kernel)⟩
theorem lw_p41 : lw_okq (⟨"TrainBook$WayFinder", "insertMinute", "(I)V"⟩, 16) := ⟨⟨by decide +kernel, by decide +kernel⟩, List.mem_of_getElem? (i := 187) (by decide +kernel), List.mem_of_getElem? (i := 684) (by decide +kernel), List.mem_of_getElem? (i := 685) (by decide +kernel)⟩
theorem lw_p42 : lw_okq (⟨"TrainBookModel", "isDays", "(I)Z"⟩, 35) := ⟨⟨by decide +kernel, by decide +kernel⟩, List.mem_of_getElem? (i := 696) (by decide +kernel), List.mem_of_getElem? (i := 814) (by decide +kernel), List.mem_of_getElem? (i := 815) (by decide +kernel)⟩
theorem lw_p43 : lw_okq (⟨"TrainBookModel", "isTrain", "(I)Z"⟩, 35) := ⟨⟨by decide +kernel, by decide +kernel⟩, List.mem_of_getElem? (i := 696) (by decide +kernel), List.mem_of_getElem? (i := 822) (by decide +kernel), List.mem_of_getElem? (i := 823) (by decide +kernel)⟩
theorem lw_p44 : lw_okq (⟨"TrainBookModel", "isStation", "(I)Z"⟩, 35) := ⟨⟨by decide +kernel, by decide +kernel⟩, List.mem_of_getElem? (i := 696) (by decide +kernel), List.mem_of_getElem? (i := 826) (by decide +kernel), List.mem_of_getElem? (i := 827) (by decide +kernel)⟩
theorem lw_p45 : lw_okq (⟨"TrainBookModel", "isMinute", "(I)Z"⟩, 35) := ⟨⟨by decide +kernel, by decide +kernel⟩, List.mem_of_getElem? (i := 696) (by decide +kernel), List.mem_of_getElem? (i := 830) (by decide +kernel), List.mem_of_getElem? (i := 831) (by decide +kernel)⟩
theorem lw_p46 : lw_okq (⟨"TrainBookModel", "stopAt", "(II)I"⟩, 35) := ⟨⟨by decide +kernel, by decide +kernel⟩, List.mem_of_getElem? (i := 696) (by decide +kernel), List.mem_of_getElem? (i := 834) (by decide +kernel), List.mem_of_getElem? (i := 835) (by decide +kernel)⟩
theorem lw_p47 : lw_okq (⟨"TrainBookModel", "ones", "(I)I"⟩, 35) := ⟨⟨by decide +kernel, by decide +kernel⟩, List.mem_of_getElem? (i := 696) (by decide +kernel), List.mem_of_getElem? (i := 866) (by decide +kernel), List.mem_of_getElem? (i := 867) (by decide +kernel)⟩
def lw_privs_3 : List (MethodName × Nat) := [(⟨"TrainBook$WayFinder", "canChange", "(LTrainBook$Train;ILTrainBook$Train;I)Z"⟩, 16), (⟨"TrainBook$WayFinder", "chooseTrains", "(II)V"⟩, 16), (⟨"TrainBook$WayFinder", "chooseTrain", "(I)V"⟩, 16), (⟨"TrainBook$WayFinder", "firstBoard", "(LTrainBook$Train;ILTrainBook$Train;I)I"⟩, 16), (⟨"TrainBook$WayFinder", "chooseStations", "(II)V"⟩, 16), (⟨"TrainBook$WayFinder", "limitBefore", "(LTrainBook$Train;LTrainBook$Train;I)I"⟩, 16), (⟨"TrainBook$WayFinder", "leastChange", "(I)I"⟩, 16), (⟨"TrainBook$WayFinder", "readLeg", "(II)I"⟩, 16), (⟨"TrainBook$WayFinder", "collectMinutes", "(I)V"⟩, 16), (⟨"TrainBook$WayFinder", "insertMinute", "(I)V"⟩, 16), (⟨"TrainBookModel", "isDays", "(I)Z"⟩, 35), (⟨"TrainBookModel", "isTrain", "(I)Z"⟩, 35), (⟨"TrainBookModel", "isStation", "(I)Z"⟩, 35), (⟨"TrainBookModel", "isMinute", "(I)Z"⟩, 35), (⟨"TrainBookModel", "stopAt", "(II)I"⟩, 35), (⟨"TrainBookModel", "ones", "(I)I"⟩, 35)]
theorem lw_r3 : ∀ q ∈ lw_privs_3, lw_okq q := List.forall_mem_cons.mpr ⟨lw_p32, List.forall_mem_cons.mpr ⟨lw_p33, List.forall_mem_cons.mpr ⟨lw_p34, List.forall_mem_cons.mpr ⟨lw_p35, List.forall_mem_cons.mpr ⟨lw_p36, List.forall_mem_cons.mpr ⟨lw_p37, List.forall_mem_cons.mpr ⟨lw_p38, List.forall_mem_cons.mpr ⟨lw_p39, List.forall_mem_cons.mpr ⟨lw_p40, List.forall_mem_cons.mpr ⟨lw_p41, List.forall_mem_cons.mpr ⟨lw_p42, List.forall_mem_cons.mpr ⟨lw_p43, List.forall_mem_cons.mpr ⟨lw_p44, List.forall_mem_cons.mpr ⟨lw_p45, List.forall_mem_cons.mpr ⟨lw_p46, List.forall_mem_cons.mpr ⟨lw_p47, fun _ h => absurd h List.not_mem_nil⟩⟩⟩⟩⟩⟩⟩⟩⟩⟩⟩⟩⟩⟩⟩⟩
theorem lw_p48 : lw_okq (⟨"TrainBookModel", "findRows", "()V"⟩, 35) := ⟨⟨by decide +kernel, by decide +kernel⟩, List.mem_of_getElem? (i := 696) (by decide +kernel), List.mem_of_getElem? (i := 874) (by decide +kernel), List.mem_of_getElem? (i := 875) (by decide +kernel)⟩
theorem lw_p49 : lw_okq (⟨"TrainBookModel", "isPlace", "(I)Z"⟩, 35) := ⟨⟨by decide +kernel, by decide +kernel⟩, List.mem_of_getElem? (i := 696) (by decide +kernel), List.mem_of_getElem? (i := 878) (by decide +kernel), List.mem_of_getElem? (i := 879) (by decide +kernel)⟩
theorem lw_p50 : lw_okq (⟨"TrainBookModel", "digit", "(II)I"⟩, 35) := ⟨⟨by decide +kernel, by decide +kernel⟩, List.mem_of_getElem? (i := 696) (by decide +kernel), List.mem_of_getElem? (i := 882) (by decide +kernel), List.mem_of_getElem? (i := 883) (by decide +kernel)⟩
theorem lw_p51 : lw_okq (⟨"TrainBookModel", "behind", "(II)I"⟩, 35) := ⟨⟨by decide +kernel, by decide +kernel⟩, List.mem_of_getElem? (i := 696) (by decide +kernel), List.mem_of_getElem? (i := 886) (by decide +kernel), List.mem_of_getElem? (i := 887) (by decide +kernel)⟩
theorem lw_p52 : lw_okq (⟨"TrainBookModel", "findColumns", "()V"⟩, 35) := ⟨⟨by decide +kernel, by decide +kernel⟩, List.mem_of_getElem? (i := 696) (by decide +kernel), List.mem_of_getElem? (i := 890) (by decide +kernel), List.mem_of_getElem? (i := 891) (by decide +kernel)⟩
theorem lw_p53 : lw_okq (⟨"TrainBookModel", "breachesOf", "([I)I"⟩, 35) := ⟨⟨by decide +kernel, by decide +kernel⟩, List.mem_of_getElem? (i := 696) (by decide +kernel), List.mem_of_getElem? (i := 894) (by decide +kernel), List.mem_of_getElem? (i := 895) (by decide +kernel)⟩
theorem lw_p54 : lw_okq (⟨"TrainBookModel", "isBreach", "(II)Z"⟩, 35) := ⟨⟨by decide +kernel, by decide +kernel⟩, List.mem_of_getElem? (i := 696) (by decide +kernel), List.mem_of_getElem? (i := 898) (by decide +kernel), List.mem_of_getElem? (i := 899) (by decide +kernel)⟩
theorem lw_p55 : lw_okq (⟨"TrainBookModel", "leaves", "(II)I"⟩, 35) := ⟨⟨by decide +kernel, by decide +kernel⟩, List.mem_of_getElem? (i := 696) (by decide +kernel), List.mem_of_getElem? (i := 902) (by decide +kernel), List.mem_of_getElem? (i := 903) (by decide +kernel)⟩
theorem lw_p56 : lw_okq (⟨"TrainBookModel", "goesOn", "()Z"⟩, 35) := ⟨⟨by decide +kernel, by decide +kernel⟩, List.mem_of_getElem? (i := 696) (by decide +kernel), List.mem_of_getElem? (i := 906) (by decide +kernel), List.mem_of_getElem? (i := 907) (by decide +kernel)⟩
theorem lw_p57 : lw_okq (⟨"TrainBookModel", "swap", "(II)V"⟩, 35) := ⟨⟨by decide +kernel, by decide +kernel⟩, List.mem_of_getElem? (i := 696) (by decide +kernel), List.mem_of_getElem? (i := 910) (by decide +kernel), List.mem_of_getElem? (i := 911) (by decide +kernel)⟩
theorem lw_p58 : lw_okq (⟨"TrainBookModel", "findLanes", "()V"⟩, 35) := ⟨⟨by decide +kernel, by decide +kernel⟩, List.mem_of_getElem? (i := 696) (by decide +kernel), List.mem_of_getElem? (i := 914) (by decide +kernel), List.mem_of_getElem? (i := 915) (by decide +kernel)⟩
theorem lw_p59 : lw_okq (⟨"TrainBookModel", "first", "(I)I"⟩, 35) := ⟨⟨by decide +kernel, by decide +kernel⟩, List.mem_of_getElem? (i := 696) (by decide +kernel), List.mem_of_getElem? (i := 918) (by decide +kernel), List.mem_of_getElem? (i := 919) (by decide +kernel)⟩
theorem lw_p60 : lw_okq (⟨"TrainBookModel", "isFree", "(II)Z"⟩, 35) := ⟨⟨by decide +kernel, by decide +kernel⟩, List.mem_of_getElem? (i := 696) (by decide +kernel), List.mem_of_getElem? (i := 922) (by decide +kernel), List.mem_of_getElem? (i := 923) (by decide +kernel)⟩
theorem lw_p61 : lw_okq (⟨"TrainBookModel", "last", "(I)I"⟩, 35) := ⟨⟨by decide +kernel, by decide +kernel⟩, List.mem_of_getElem? (i := 696) (by decide +kernel), List.mem_of_getElem? (i := 926) (by decide +kernel), List.mem_of_getElem? (i := 927) (by decide +kernel)⟩
theorem lw_p62 : lw_okq (⟨"TrainBookModel", "isColumn", "(I)Z"⟩, 35) := ⟨⟨by decide +kernel, by decide +kernel⟩, List.mem_of_getElem? (i := 696) (by decide +kernel), List.mem_of_getElem? (i := 938) (by decide +kernel), List.mem_of_getElem? (i := 939) (by decide +kernel)⟩
theorem lw_p63 : lw_okq (⟨"TrainBookModel", "finds", "(IIII)Z"⟩, 35) := ⟨⟨by decide +kernel, by decide +kernel⟩, List.mem_of_getElem? (i := 696) (by decide +kernel), List.mem_of_getElem? (i := 966) (by decide +kernel), List.mem_of_getElem? (i := 967) (by decide +kernel)⟩
def lw_privs_4 : List (MethodName × Nat) := [(⟨"TrainBookModel", "findRows", "()V"⟩, 35), (⟨"TrainBookModel", "isPlace", "(I)Z"⟩, 35), (⟨"TrainBookModel", "digit", "(II)I"⟩, 35), (⟨"TrainBookModel", "behind", "(II)I"⟩, 35), (⟨"TrainBookModel", "findColumns", "()V"⟩, 35), (⟨"TrainBookModel", "breachesOf", "([I)I"⟩, 35), (⟨"TrainBookModel", "isBreach", "(II)Z"⟩, 35), (⟨"TrainBookModel", "leaves", "(II)I"⟩, 35), (⟨"TrainBookModel", "goesOn", "()Z"⟩, 35), (⟨"TrainBookModel", "swap", "(II)V"⟩, 35), (⟨"TrainBookModel", "findLanes", "()V"⟩, 35), (⟨"TrainBookModel", "first", "(I)I"⟩, 35), (⟨"TrainBookModel", "isFree", "(II)Z"⟩, 35), (⟨"TrainBookModel", "last", "(I)I"⟩, 35), (⟨"TrainBookModel", "isColumn", "(I)Z"⟩, 35), (⟨"TrainBookModel", "finds", "(IIII)Z"⟩, 35)]
theorem lw_r4 : ∀ q ∈ lw_privs_4, lw_okq q := List.forall_mem_cons.mpr ⟨lw_p48, List.forall_mem_cons.mpr ⟨lw_p49, List.forall_mem_cons.mpr ⟨lw_p50, List.forall_mem_cons.mpr ⟨lw_p51, List.forall_mem_cons.mpr ⟨lw_p52, List.forall_mem_cons.mpr ⟨lw_p53, List.forall_mem_cons.mpr ⟨lw_p54, List.forall_mem_cons.mpr ⟨lw_p55, List.forall_mem_cons.mpr ⟨lw_p56, List.forall_mem_cons.mpr ⟨lw_p57, List.forall_mem_cons.mpr ⟨lw_p58, List.forall_mem_cons.mpr ⟨lw_p59, List.forall_mem_cons.mpr ⟨lw_p60, List.forall_mem_cons.mpr ⟨lw_p61, List.forall_mem_cons.mpr ⟨lw_p62, List.forall_mem_cons.mpr ⟨lw_p63, fun _ h => absurd h List.not_mem_nil⟩⟩⟩⟩⟩⟩⟩⟩⟩⟩⟩⟩⟩⟩⟩⟩
theorem lw_p64 : lw_okq (⟨"TrainBookModel", "soonest", "(IIII)I"⟩, 35) := ⟨⟨by decide +kernel, by decide +kernel⟩, List.mem_of_getElem? (i := 696) (by decide +kernel), List.mem_of_getElem? (i := 970) (by decide +kernel), List.mem_of_getElem? (i := 971) (by decide +kernel)⟩
theorem lw_p65 : lw_okq (⟨"TrainBookModel", "runs", "(II)Z"⟩, 35) := ⟨⟨by decide +kernel, by decide +kernel⟩, List.mem_of_getElem? (i := 696) (by decide +kernel), List.mem_of_getElem? (i := 974) (by decide +kernel), List.mem_of_getElem? (i := 975) (by decide +kernel)⟩
theorem lw_p66 : lw_okq (⟨"TrainBookModel", "isBoarded", "(IIII)Z"⟩, 35) := ⟨⟨by decide +kernel, by decide +kernel⟩, List.mem_of_getElem? (i := 696) (by decide +kernel), List.mem_of_getElem? (i := 978) (by decide +kernel), List.mem_of_getElem? (i := 979) (by decide +kernel)⟩
theorem lw_p67 : lw_okq (⟨"TrainBookModel", "canChange", "(II)Z"⟩, 35) := ⟨⟨by decide +kernel, by decide +kernel⟩, List.mem_of_getElem? (i := 696) (by decide +kernel), List.mem_of_getElem? (i := 982) (by decide +kernel), List.mem_of_getElem? (i := 983) (by decide +kernel)⟩
theorem lw_p68 : lw_okq (⟨"TrainBookModel", "findRest", "(II)V"⟩, 35) := ⟨⟨by decide +kernel, by decide +kernel⟩, List.mem_of_getElem? (i := 696) (by decide +kernel), List.mem_of_getElem? (i := 986) (by decide +kernel), List.mem_of_getElem? (i := 987) (by decide +kernel)⟩
theorem lw_p69 : lw_okq (⟨"TrainBookModel", "canGoOn", "(III)Z"⟩, 35) := ⟨⟨by decide +kernel, by decide +kernel⟩, List.mem_of_getElem? (i := 696) (by decide +kernel), List.mem_of_getElem? (i := 990) (by decide +kernel), List.mem_of_getElem? (i := 991) (by decide +kernel)⟩
theorem lw_p70 : lw_okq (⟨"TrainBookModel", "firstTrain", "(ZIIII)I"⟩, 35) := ⟨⟨by decide +kernel, by decide +kernel⟩, List.mem_of_getElem? (i := 696) (by decide +kernel), List.mem_of_getElem? (i := 994) (by decide +kernel), List.mem_of_getElem? (i := 995) (by decide +kernel)⟩
theorem lw_p71 : lw_okq (⟨"TrainBookModel", "leavesAt", "(IZIII)Z"⟩, 35) := ⟨⟨by decide +kernel, by decide +kernel⟩, List.mem_of_getElem? (i := 696) (by decide +kernel), List.mem_of_getElem? (i := 998) (by decide +kernel), List.mem_of_getElem? (i := 999) (by decide +kernel)⟩
theorem lw_p72 : lw_okq (⟨"TrainBookModel", "canBoard", "(IZII)Z"⟩, 35) := ⟨⟨by decide +kernel, by decide +kernel⟩, List.mem_of_getElem? (i := 696) (by decide +kernel), List.mem_of_getElem? (i := 1002) (by decide +kernel), List.mem_of_getElem? (i := 1003) (by decide +kernel)⟩
theorem lw_p73 : lw_okq (⟨"TrainBookModel", "boardOf", "(IIIII)I"⟩, 35) := ⟨⟨by decide +kernel, by decide +kernel⟩, List.mem_of_getElem? (i := 696) (by decide +kernel), List.mem_of_getElem? (i := 1006) (by decide +kernel), List.mem_of_getElem? (i := 1007) (by decide +kernel)⟩
theorem lw_p74 : lw_okq (⟨"TrainBookModel", "restGoes", "(III)Z"⟩, 35) := ⟨⟨by decide +kernel, by decide +kernel⟩, List.mem_of_getElem? (i := 696) (by decide +kernel), List.mem_of_getElem? (i := 1010) (by decide +kernel), List.mem_of_getElem? (i := 1011) (by decide +kernel)⟩
theorem lw_p75 : lw_okq (⟨"TrainBookModel", "canDepart", "(III)Z"⟩, 35) := ⟨⟨by decide +kernel, by decide +kernel⟩, List.mem_of_getElem? (i := 696) (by decide +kernel), List.mem_of_getElem? (i := 1018) (by decide +kernel), List.mem_of_getElem? (i := 1019) (by decide +kernel)⟩
theorem lw_p76 : lw_okq (⟨"TrainBookModel", "findDepartures", "(III)V"⟩, 35) := ⟨⟨by decide +kernel, by decide +kernel⟩, List.mem_of_getElem? (i := 696) (by decide +kernel), List.mem_of_getElem? (i := 1022) (by decide +kernel), List.mem_of_getElem? (i := 1023) (by decide +kernel)⟩
theorem lw_p77 : lw_okq (⟨"TrainBookModel", "isGone", "(III)Z"⟩, 35) := ⟨⟨by decide +kernel, by decide +kernel⟩, List.mem_of_getElem? (i := 696) (by decide +kernel), List.mem_of_getElem? (i := 1026) (by decide +kernel), List.mem_of_getElem? (i := 1027) (by decide +kernel)⟩
def lw_privs_5 : List (MethodName × Nat) := [(⟨"TrainBookModel", "soonest", "(IIII)I"⟩, 35), (⟨"TrainBookModel", "runs", "(II)Z"⟩, 35), (⟨"TrainBookModel", "isBoarded", "(IIII)Z"⟩, 35), (⟨"TrainBookModel", "canChange", "(II)Z"⟩, 35), (⟨"TrainBookModel", "findRest", "(II)V"⟩, 35), (⟨"TrainBookModel", "canGoOn", "(III)Z"⟩, 35), (⟨"TrainBookModel", "firstTrain", "(ZIIII)I"⟩, 35), (⟨"TrainBookModel", "leavesAt", "(IZIII)Z"⟩, 35), (⟨"TrainBookModel", "canBoard", "(IZII)Z"⟩, 35), (⟨"TrainBookModel", "boardOf", "(IIIII)I"⟩, 35), (⟨"TrainBookModel", "restGoes", "(III)Z"⟩, 35), (⟨"TrainBookModel", "canDepart", "(III)Z"⟩, 35), (⟨"TrainBookModel", "findDepartures", "(III)V"⟩, 35), (⟨"TrainBookModel", "isGone", "(III)Z"⟩, 35)]
theorem lw_r5 : ∀ q ∈ lw_privs_5, lw_okq q := List.forall_mem_cons.mpr ⟨lw_p64, List.forall_mem_cons.mpr ⟨lw_p65, List.forall_mem_cons.mpr ⟨lw_p66, List.forall_mem_cons.mpr ⟨lw_p67, List.forall_mem_cons.mpr ⟨lw_p68, List.forall_mem_cons.mpr ⟨lw_p69, List.forall_mem_cons.mpr ⟨lw_p70, List.forall_mem_cons.mpr ⟨lw_p71, List.forall_mem_cons.mpr ⟨lw_p72, List.forall_mem_cons.mpr ⟨lw_p73, List.forall_mem_cons.mpr ⟨lw_p74, List.forall_mem_cons.mpr ⟨lw_p75, List.forall_mem_cons.mpr ⟨lw_p76, List.forall_mem_cons.mpr ⟨lw_p77, fun _ h => absurd h List.not_mem_nil⟩⟩⟩⟩⟩⟩⟩⟩⟩⟩⟩⟩⟩⟩
def lw_privs : List (MethodName × Nat) := lw_privs_1 ++ (lw_privs_2 ++ (lw_privs_3 ++ (lw_privs_4 ++ (lw_privs_5))))
def lw_tbl : List Cond := k2_sels lw_privs ++ tables_1
theorem lw_privs_ok : ∀ q ∈ lw_privs, lw_okq q := by
  show ∀ q ∈ lw_privs_1 ++ (lw_privs_2 ++ (lw_privs_3 ++ (lw_privs_4 ++ (lw_privs_5)))), lw_okq q
  exact List.forall_mem_append.mpr ⟨lw_r1, List.forall_mem_append.mpr ⟨lw_r2, List.forall_mem_append.mpr ⟨lw_r3, List.forall_mem_append.mpr ⟨lw_r4, lw_r5⟩⟩⟩⟩
end
section
def RX0 : String := "TrainBook$ColumnOrder"
def TX0 : u_T := fun k => match k with
  | 0 => ("TrainBook$ColumnOrder", "order", "[I", true)
  | 1 => ("TrainBook$ColumnOrder", "breachCount", "I", false)
  | 2 => ("TrainBook$ColumnOrder", "knotCount", "I", false)
  | 3 => ("TrainBook$ColumnOrder", "members", "I", false)
  | 4 => ("TrainBook$ColumnOrder", "breached", "[I", true)
  | _ => ("TrainBook$ColumnOrder", "fewest", "[I", true)
def tyX0 : Nat → FieldType := fun k => match k with
  | 0 => .array .int
  | 1 => .int
  | 2 => .int
  | 3 => .int
  | 4 => .array .int
  | _ => .array .int
abbrev wsX00 : List Cond := u_ws RX0 TX0 6
theorem nmX0 : ∀ a, a < 6 → ∀ b, b < 6 → a ≠ b → (TX0 a).2.1 ≠ (TX0 b).2.1 := by decide +kernel
theorem tyX0_ok : ∀ k, k < 6 → parseFieldDescriptor (TX0 k).2.2.1 = some (tyX0 k) := by decide +kernel
abbrev cX0_init : ByteArray := prog_2_method_1_code
def yX0_init : MethodName := ⟨RX0, "<init>", "()V"⟩
abbrev cX0_arrange : ByteArray := prog_2_method_2_code
def yX0_arrange : MethodName := ⟨RX0, "arrange", "([LTrainBook$Train;I)V"⟩
abbrev cX0_wouldBreach : ByteArray := prog_2_method_3_code
def yX0_wouldBreach : MethodName := ⟨RX0, "wouldBreach", "(II)Z"⟩
abbrev cX0_breachedBy : ByteArray := prog_2_method_4_code
def yX0_breachedBy : MethodName := ⟨RX0, "breachedBy", "([LTrainBook$Train;I)I"⟩
abbrev cX0_fillFewest : ByteArray := prog_2_method_5_code
def yX0_fillFewest : MethodName := ⟨RX0, "fillFewest", "()V"⟩
abbrev cX0_fewestWith : ByteArray := prog_2_method_6_code
def yX0_fewestWith : MethodName := ⟨RX0, "fewestWith", "(II)I"⟩
abbrev cX0_setOrder : ByteArray := prog_2_method_7_code
def yX0_setOrder : MethodName := ⟨RX0, "setOrder", "()V"⟩
abbrev cX0_firstBehind : ByteArray := prog_2_method_8_code
def yX0_firstBehind : MethodName := ⟨RX0, "firstBehind", "(I)I"⟩
def RX1 : String := "TrainBook$LanePlan"
def TX1 : u_T := fun k => match k with
  | 0 => ("TrainBook$LanePlan", "count", "I", false)
  | 1 => ("TrainBook$LanePlan", "laneOf", "[I", true)
  | _ => ("TrainBook$LanePlan", "lastRow", "[I", true)
def tyX1 : Nat → FieldType := fun k => match k with
  | 0 => .int
  | 1 => .array .int
  | _ => .array .int
abbrev wsX10 : List Cond := u_ws RX1 TX1 3
theorem nmX1 : ∀ a, a < 3 → ∀ b, b < 3 → a ≠ b → (TX1 a).2.1 ≠ (TX1 b).2.1 := by decide +kernel
theorem tyX1_ok : ∀ k, k < 3 → parseFieldDescriptor (TX1 k).2.2.1 = some (tyX1 k) := by decide +kernel
abbrev cX1_init : ByteArray := prog_3_method_1_code
def yX1_init : MethodName := ⟨RX1, "<init>", "()V"⟩
abbrev cX1_clear : ByteArray := prog_3_method_2_code
def yX1_clear : MethodName := ⟨RX1, "clear", "()V"⟩
abbrev cX1_give : ByteArray := prog_3_method_3_code
def yX1_give : MethodName := ⟨RX1, "give", "(III)V"⟩
def RX2 : String := "TrainBook$RowSearch"
def TX2 : u_T := fun k => match k with
  | 0 => ("TrainBook$RowSearch", "length", "I", false)
  | 1 => ("TrainBook$RowSearch", "path", "[I", true)
  | 2 => ("TrainBook$RowSearch", "members", "I", false)
  | 3 => ("TrainBook$RowSearch", "end", "I", false)
  | 4 => ("TrainBook$RowSearch", "stamp", "I", false)
  | 5 => ("TrainBook$RowSearch", "next", "[I", true)
  | 6 => ("TrainBook$RowSearch", "ahead", "[I", true)
  | 7 => ("TrainBook$RowSearch", "pairNeed", "[I", true)
  | _ => ("TrainBook$RowSearch", "known", "[I", false)
def tyX2 : Nat → FieldType := fun k => match k with
  | 0 => .int
  | 1 => .array .int
  | 2 => .int
  | 3 => .int
  | 4 => .int
  | 5 => .array .int
  | 6 => .array .int
  | 7 => .array .int
  | _ => .array .int
abbrev wsX20 : List Cond := u_ws RX2 TX2 9
theorem nmX2 : ∀ a, a < 9 → ∀ b, b < 9 → a ≠ b → (TX2 a).2.1 ≠ (TX2 b).2.1 := by decide +kernel
theorem tyX2_ok : ∀ k, k < 9 → parseFieldDescriptor (TX2 k).2.2.1 = some (tyX2 k) := by decide +kernel
abbrev cX2_init : ByteArray := prog_4_method_1_code
def yX2_init : MethodName := ⟨RX2, "<init>", "()V"⟩
abbrev cX2_search : ByteArray := prog_4_method_2_code
def yX2_search : MethodName := ⟨RX2, "search", "([LTrainBook$Train;I)V"⟩
abbrev cX2_reach : ByteArray := prog_4_method_3_code
def yX2_reach : MethodName := ⟨RX2, "reach", "(LTrainBook$RowSearch;II)Z"⟩
abbrev cX2_prepare : ByteArray := prog_4_method_4_code
def yX2_prepare : MethodName := ⟨RX2, "prepare", "([LTrainBook$Train;I)V"⟩
abbrev cX2_readStops : ByteArray := prog_4_method_5_code
def yX2_readStops : MethodName := ⟨RX2, "readStops", "(LTrainBook$Train;I)V"⟩
abbrev cX2_fillPair : ByteArray := prog_4_method_6_code
def yX2_fillPair : MethodName := ⟨RX2, "fillPair", "(ILTrainBook$Train;LTrainBook$Train;)V"⟩
abbrev cX2_openKnown : ByteArray := prog_4_method_7_code
def yX2_openKnown : MethodName := ⟨RX2, "openKnown", "(I)V"⟩
abbrev cX2_needOf : ByteArray := prog_4_method_8_code
def yX2_needOf : MethodName := ⟨RX2, "needOf", "(I)I"⟩
abbrev cX2_keep : ByteArray := prog_4_method_9_code
def yX2_keep : MethodName := ⟨RX2, "keep", "(II)V"⟩
abbrev cX2_placeOf : ByteArray := prog_4_method_10_code
def yX2_placeOf : MethodName := ⟨RX2, "placeOf", "(II)I"⟩
abbrev cX2_leastNeed : ByteArray := prog_4_method_11_code
def yX2_leastNeed : MethodName := ⟨RX2, "leastNeed", "(I)I"⟩
abbrev cX2_pairNeedAt : ByteArray := prog_4_method_12_code
def yX2_pairNeedAt : MethodName := ⟨RX2, "pairNeedAt", "(III)I"⟩
abbrev cX2_nextStations : ByteArray := prog_4_method_13_code
def yX2_nextStations : MethodName := ⟨RX2, "nextStations", "(I)I"⟩
abbrev cX2_passed : ByteArray := prog_4_method_14_code
def yX2_passed : MethodName := ⟨RX2, "passed", "(II)I"⟩
def RX3 : String := "TrainBook$SignBook"
def TX3 : u_T := fun k => match k with
  | _ => ("TrainBook$SignBook", "told", "[I", true)
def tyX3 : Nat → FieldType := fun k => match k with
  | _ => .array .int
abbrev wsX30 : List Cond := u_ws RX3 TX3 1
theorem nmX3 : ∀ a, a < 1 → ∀ b, b < 1 → a ≠ b → (TX3 a).2.1 ≠ (TX3 b).2.1 := by decide +kernel
theorem tyX3_ok : ∀ k, k < 1 → parseFieldDescriptor (TX3 k).2.2.1 = some (tyX3 k) := by decide +kernel
abbrev cX3_init : ByteArray := prog_5_method_1_code
def yX3_init : MethodName := ⟨RX3, "<init>", "()V"⟩
abbrev cX3_tell : ByteArray := prog_5_method_2_code
def yX3_tell : MethodName := ⟨RX3, "tell", "(II)V"⟩
abbrev cX3_fewestFor : ByteArray := prog_5_method_3_code
def yX3_fewestFor : MethodName := ⟨RX3, "fewestFor", "(I)I"⟩
abbrev cX3_unionOf : ByteArray := prog_5_method_4_code
def yX3_unionOf : MethodName := ⟨RX3, "unionOf", "(I)I"⟩
abbrev cX3_lesser : ByteArray := prog_5_method_5_code
def yX3_lesser : MethodName := ⟨RX3, "lesser", "(II)I"⟩
def RX4 : String := "TrainBook$Table"
def TX4 : u_T := fun k => match k with
  | 0 => ("TrainBook$Table", "member", "[LTrainBook$Train;", true)
  | 1 => ("TrainBook$Table", "number", "[I", true)
  | 2 => ("TrainBook$Table", "stopRow", "[I", true)
  | 3 => ("TrainBook$Table", "rows", "LTrainBook$RowSearch;", true)
  | 4 => ("TrainBook$Table", "columns", "LTrainBook$ColumnOrder;", true)
  | 5 => ("TrainBook$Table", "lanePlan", "LTrainBook$LanePlan;", true)
  | _ => ("TrainBook$Table", "members", "I", false)
def tyX4 : Nat → FieldType := fun k => match k with
  | 0 => .array (.object "TrainBook$Train")
  | 1 => .array .int
  | 2 => .array .int
  | 3 => .object "TrainBook$RowSearch"
  | 4 => .object "TrainBook$ColumnOrder"
  | 5 => .object "TrainBook$LanePlan"
  | _ => .int
abbrev wsX40 : List Cond := u_ws RX4 TX4 7
theorem nmX4 : ∀ a, a < 7 → ∀ b, b < 7 → a ≠ b → (TX4 a).2.1 ≠ (TX4 b).2.1 := by decide +kernel
theorem tyX4_ok : ∀ k, k < 7 → parseFieldDescriptor (TX4 k).2.2.1 = some (tyX4 k) := by decide +kernel
abbrev cX4_init : ByteArray := prog_6_method_1_code
def yX4_init : MethodName := ⟨RX4, "<init>", "()V"⟩
abbrev cX4_make : ByteArray := prog_6_method_2_code
def yX4_make : MethodName := ⟨RX4, "make", "([LTrainBook$Train;I)V"⟩
abbrev cX4_isMade : ByteArray := prog_6_method_3_code
def yX4_isMade : MethodName := ⟨RX4, "isMade", "()Z"⟩
abbrev cX4_rowCount : ByteArray := prog_6_method_4_code
def yX4_rowCount : MethodName := ⟨RX4, "rowCount", "()I"⟩
abbrev cX4_columnCount : ByteArray := prog_6_method_5_code
def yX4_columnCount : MethodName := ⟨RX4, "columnCount", "()I"⟩
abbrev cX4_hasRow : ByteArray := prog_6_method_6_code
def yX4_hasRow : MethodName := ⟨RX4, "hasRow", "(I)Z"⟩
abbrev cX4_hasColumn : ByteArray := prog_6_method_7_code
def yX4_hasColumn : MethodName := ⟨RX4, "hasColumn", "(I)Z"⟩
abbrev cX4_stationOf : ByteArray := prog_6_method_8_code
def yX4_stationOf : MethodName := ⟨RX4, "stationOf", "(I)I"⟩
abbrev cX4_trainOf : ByteArray := prog_6_method_9_code
def yX4_trainOf : MethodName := ⟨RX4, "trainOf", "(I)I"⟩
abbrev cX4_read : ByteArray := prog_6_method_10_code
def yX4_read : MethodName := ⟨RX4, "read", "(IIZ)I"⟩
abbrev cX4_countBreaches : ByteArray := prog_6_method_11_code
def yX4_countBreaches : MethodName := ⟨RX4, "countBreaches", "()I"⟩
abbrev cX4_countKnots : ByteArray := prog_6_method_12_code
def yX4_countKnots : MethodName := ⟨RX4, "countKnots", "()I"⟩
abbrev cX4_isBreach : ByteArray := prog_6_method_13_code
def yX4_isBreach : MethodName := ⟨RX4, "isBreach", "(II)Z"⟩
abbrev cX4_laneCount : ByteArray := prog_6_method_14_code
def yX4_laneCount : MethodName := ⟨RX4, "laneCount", "()I"⟩
abbrev cX4_laneOf : ByteArray := prog_6_method_15_code
def yX4_laneOf : MethodName := ⟨RX4, "laneOf", "(I)I"⟩
abbrev cX4_takeMembers : ByteArray := prog_6_method_16_code
def yX4_takeMembers : MethodName := ⟨RX4, "takeMembers", "([LTrainBook$Train;I)V"⟩
abbrev cX4_placeStops : ByteArray := prog_6_method_17_code
def yX4_placeStops : MethodName := ⟨RX4, "placeStops", "(I)V"⟩
abbrev cX4_firstRow : ByteArray := prog_6_method_18_code
def yX4_firstRow : MethodName := ⟨RX4, "firstRow", "(I)I"⟩
abbrev cX4_lastRow : ByteArray := prog_6_method_19_code
def yX4_lastRow : MethodName := ⟨RX4, "lastRow", "(I)I"⟩
abbrev cX4_planLanes : ByteArray := prog_6_method_20_code
def yX4_planLanes : MethodName := ⟨RX4, "planLanes", "()V"⟩
def RX5 : String := "TrainBook$Train"
def TX5 : u_T := fun k => match k with
  | 0 => ("TrainBook$Train", "onDays", "I", false)
  | 1 => ("TrainBook$Train", "stops", "I", false)
  | 2 => ("TrainBook$Train", "station", "[I", true)
  | 3 => ("TrainBook$Train", "comes", "[I", true)
  | 4 => ("TrainBook$Train", "goes", "[I", true)
  | _ => ("TrainBook$Train", "stopAt", "[I", true)
def tyX5 : Nat → FieldType := fun k => match k with
  | 0 => .int
  | 1 => .int
  | 2 => .array .int
  | 3 => .array .int
  | 4 => .array .int
  | _ => .array .int
abbrev wsX50 : List Cond := u_ws RX5 TX5 6
theorem nmX5 : ∀ a, a < 6 → ∀ b, b < 6 → a ≠ b → (TX5 a).2.1 ≠ (TX5 b).2.1 := by decide +kernel
theorem tyX5_ok : ∀ k, k < 6 → parseFieldDescriptor (TX5 k).2.2.1 = some (tyX5 k) := by decide +kernel
abbrev cX5_init : ByteArray := prog_7_method_1_code
def yX5_init : MethodName := ⟨RX5, "<init>", "()V"⟩
abbrev cX5_takes : ByteArray := prog_7_method_2_code
def yX5_takes : MethodName := ⟨RX5, "takes", "(III)Z"⟩
abbrev cX5_add : ByteArray := prog_7_method_3_code
def yX5_add : MethodName := ⟨RX5, "add", "(III)V"⟩
abbrev cX5_dropLast : ByteArray := prog_7_method_4_code
def yX5_dropLast : MethodName := ⟨RX5, "dropLast", "()V"⟩
abbrev cX5_staysInDay : ByteArray := prog_7_method_5_code
def yX5_staysInDay : MethodName := ⟨RX5, "staysInDay", "(I)Z"⟩
abbrev cX5_move : ByteArray := prog_7_method_6_code
def yX5_move : MethodName := ⟨RX5, "move", "(I)V"⟩
abbrev cX5_runsOn : ByteArray := prog_7_method_7_code
def yX5_runsOn : MethodName := ⟨RX5, "runsOn", "(I)Z"⟩
abbrev cX5_read : ByteArray := prog_7_method_8_code
def yX5_read : MethodName := ⟨RX5, "read", "(I)I"⟩
abbrev cX5_leaves : ByteArray := prog_7_method_9_code
def yX5_leaves : MethodName := ⟨RX5, "leaves", "(I)I"⟩
abbrev cX5_isAheadSomewhere : ByteArray := prog_7_method_10_code
def yX5_isAheadSomewhere : MethodName := ⟨RX5, "isAheadSomewhere", "(LTrainBook$Train;)Z"⟩
abbrev cX5_copy : ByteArray := prog_7_method_11_code
def yX5_copy : MethodName := ⟨RX5, "copy", "(LTrainBook$Train;)V"⟩
def RX6 : String := "TrainBook$WayFinder"
def TX6 : u_T := fun k => match k with
  | 0 => ("TrainBook$WayFinder", "trains", "[LTrainBook$Train;", false)
  | 1 => ("TrainBook$WayFinder", "count", "I", false)
  | 2 => ("TrainBook$WayFinder", "weekday", "I", false)
  | 3 => ("TrainBook$WayFinder", "wait", "I", false)
  | 4 => ("TrainBook$WayFinder", "arrives", "[I", true)
  | 5 => ("TrainBook$WayFinder", "lastBoard", "[I", true)
  | 6 => ("TrainBook$WayFinder", "soonest", "I", false)
  | 7 => ("TrainBook$WayFinder", "legs", "I", false)
  | 8 => ("TrainBook$WayFinder", "leg", "[I", true)
  | 9 => ("TrainBook$WayFinder", "legLimit", "[I", true)
  | 10 => ("TrainBook$WayFinder", "boards", "[I", true)
  | 11 => ("TrainBook$WayFinder", "leaves", "[I", true)
  | 12 => ("TrainBook$WayFinder", "minutes", "[I", true)
  | 13 => ("TrainBook$WayFinder", "minuteCount", "I", false)
  | 14 => ("TrainBook$WayFinder", "found", "[I", true)
  | _ => ("TrainBook$WayFinder", "foundCount", "I", false)
def tyX6 : Nat → FieldType := fun k => match k with
  | 0 => .array (.object "TrainBook$Train")
  | 1 => .int
  | 2 => .int
  | 3 => .int
  | 4 => .array .int
  | 5 => .array .int
  | 6 => .int
  | 7 => .int
  | 8 => .array .int
  | 9 => .array .int
  | 10 => .array .int
  | 11 => .array .int
  | 12 => .array .int
  | 13 => .int
  | 14 => .array .int
  | _ => .int
abbrev wsX60 : List Cond := u_ws RX6 TX6 16
theorem nmX6 : ∀ a, a < 16 → ∀ b, b < 16 → a ≠ b → (TX6 a).2.1 ≠ (TX6 b).2.1 := by decide +kernel
theorem tyX6_ok : ∀ k, k < 16 → parseFieldDescriptor (TX6 k).2.2.1 = some (tyX6 k) := by decide +kernel
abbrev cX6_init : ByteArray := prog_8_method_1_code
def yX6_init : MethodName := ⟨RX6, "<init>", "()V"⟩
abbrev cX6_setOut : ByteArray := prog_8_method_2_code
def yX6_setOut : MethodName := ⟨RX6, "setOut", "([LTrainBook$Train;III)V"⟩
abbrev cX6_findBest : ByteArray := prog_8_method_3_code
def yX6_findBest : MethodName := ⟨RX6, "findBest", "(III)Z"⟩
abbrev cX6_read : ByteArray := prog_8_method_4_code
def yX6_read : MethodName := ⟨RX6, "read", "(I)I"⟩
abbrev cX6_findDepartures : ByteArray := prog_8_method_5_code
def yX6_findDepartures : MethodName := ⟨RX6, "findDepartures", "(II)I"⟩
abbrev cX6_departureAt : ByteArray := prog_8_method_6_code
def yX6_departureAt : MethodName := ⟨RX6, "departureAt", "(I)I"⟩
abbrev cX6_readLeg : ByteArray := prog_8_method_7_code
def yX6_readLeg : MethodName := ⟨RX6, "readLeg", "(II)I"⟩
abbrev cX6_soonestAt : ByteArray := prog_8_method_8_code
def yX6_soonestAt : MethodName := ⟨RX6, "soonestAt", "(III)I"⟩
abbrev cX6_ride : ByteArray := prog_8_method_9_code
def yX6_ride : MethodName := ⟨RX6, "ride", "(LTrainBook$Train;)Z"⟩
abbrev cX6_countLegs : ByteArray := prog_8_method_10_code
def yX6_countLegs : MethodName := ⟨RX6, "countLegs", "(III)V"⟩
abbrev cX6_lastBoardTo : ByteArray := prog_8_method_11_code
def yX6_lastBoardTo : MethodName := ⟨RX6, "lastBoardTo", "(LTrainBook$Train;I)I"⟩
abbrev cX6_lastBoardBefore : ByteArray := prog_8_method_12_code
def yX6_lastBoardBefore : MethodName := ⟨RX6, "lastBoardBefore", "(LTrainBook$Train;I)I"⟩
abbrev cX6_canChange : ByteArray := prog_8_method_13_code
def yX6_canChange : MethodName := ⟨RX6, "canChange", "(LTrainBook$Train;ILTrainBook$Train;I)Z"⟩
abbrev cX6_firstTrain : ByteArray := prog_8_method_14_code
def yX6_firstTrain : MethodName := ⟨RX6, "firstTrain", "(II)I"⟩
abbrev cX6_chooseTrains : ByteArray := prog_8_method_15_code
def yX6_chooseTrains : MethodName := ⟨RX6, "chooseTrains", "(II)V"⟩
abbrev cX6_chooseTrain : ByteArray := prog_8_method_16_code
def yX6_chooseTrain : MethodName := ⟨RX6, "chooseTrain", "(I)V"⟩
abbrev cX6_firstBoard : ByteArray := prog_8_method_17_code
def yX6_firstBoard : MethodName := ⟨RX6, "firstBoard", "(LTrainBook$Train;ILTrainBook$Train;I)I"⟩
abbrev cX6_chooseStations : ByteArray := prog_8_method_18_code
def yX6_chooseStations : MethodName := ⟨RX6, "chooseStations", "(II)V"⟩
abbrev cX6_limitBefore : ByteArray := prog_8_method_19_code
def yX6_limitBefore : MethodName := ⟨RX6, "limitBefore", "(LTrainBook$Train;LTrainBook$Train;I)I"⟩
abbrev cX6_leastChange : ByteArray := prog_8_method_20_code
def yX6_leastChange : MethodName := ⟨RX6, "leastChange", "(I)I"⟩
abbrev cX6_collectMinutes : ByteArray := prog_8_method_21_code
def yX6_collectMinutes : MethodName := ⟨RX6, "collectMinutes", "(I)V"⟩
abbrev cX6_insertMinute : ByteArray := prog_8_method_22_code
def yX6_insertMinute : MethodName := ⟨RX6, "insertMinute", "(I)V"⟩
def RX7 : String := "TrainBook"
def TX7 : u_T := fun k => match k with
  | 0 => ("TrainBook", "trains", "[LTrainBook$Train;", true)
  | 1 => ("TrainBook", "signBook", "LTrainBook$SignBook;", true)
  | 2 => ("TrainBook", "sheet", "LTrainBook$Table;", true)
  | 3 => ("TrainBook", "finder", "LTrainBook$WayFinder;", true)
  | 4 => ("TrainBook", "trainCount", "I", false)
  | _ => ("TrainBook", "changeMinutes", "I", false)
def tyX7 : Nat → FieldType := fun k => match k with
  | 0 => .array (.object "TrainBook$Train")
  | 1 => .object "TrainBook$SignBook"
  | 2 => .object "TrainBook$Table"
  | 3 => .object "TrainBook$WayFinder"
  | 4 => .int
  | _ => .int
abbrev wsX70 : List Cond := u_ws RX7 TX7 6
theorem nmX7 : ∀ a, a < 6 → ∀ b, b < 6 → a ≠ b → (TX7 a).2.1 ≠ (TX7 b).2.1 := by decide +kernel
theorem tyX7_ok : ∀ k, k < 6 → parseFieldDescriptor (TX7 k).2.2.1 = some (tyX7 k) := by decide +kernel
abbrev cX7_init : ByteArray := prog_1_method_1_code
def yX7_init : MethodName := ⟨RX7, "<init>", "()V"⟩
abbrev cX7_train : ByteArray := prog_1_method_2_code
def yX7_train : MethodName := ⟨RX7, "train", "(I)I"⟩
abbrev cX7_stop : ByteArray := prog_1_method_3_code
def yX7_stop : MethodName := ⟨RX7, "stop", "(IIII)I"⟩
abbrev cX7_days : ByteArray := prog_1_method_4_code
def yX7_days : MethodName := ⟨RX7, "days", "(II)Z"⟩
abbrev cX7_cut : ByteArray := prog_1_method_5_code
def yX7_cut : MethodName := ⟨RX7, "cut", "(I)Z"⟩
abbrev cX7_shift : ByteArray := prog_1_method_6_code
def yX7_shift : MethodName := ⟨RX7, "shift", "(II)Z"⟩
abbrev cX7_sign : ByteArray := prog_1_method_7_code
def yX7_sign : MethodName := ⟨RX7, "sign", "(II)Z"⟩
abbrev cX7_change : ByteArray := prog_1_method_8_code
def yX7_change : MethodName := ⟨RX7, "change", "(I)Z"⟩
abbrev cX7_about : ByteArray := prog_1_method_9_code
def yX7_about : MethodName := ⟨RX7, "about", "(I)I"⟩
abbrev cX7_signs : ByteArray := prog_1_method_10_code
def yX7_signs : MethodName := ⟨RX7, "signs", "(II)I"⟩
abbrev cX7_table : ByteArray := prog_1_method_11_code
def yX7_table : MethodName := ⟨RX7, "table", "(I)I"⟩
abbrev cX7_row : ByteArray := prog_1_method_12_code
def yX7_row : MethodName := ⟨RX7, "row", "(I)I"⟩
abbrev cX7_column : ByteArray := prog_1_method_13_code
def yX7_column : MethodName := ⟨RX7, "column", "(I)I"⟩
abbrev cX7_cell : ByteArray := prog_1_method_14_code
def yX7_cell : MethodName := ⟨RX7, "cell", "(III)I"⟩
abbrev cX7_breaches : ByteArray := prog_1_method_15_code
def yX7_breaches : MethodName := ⟨RX7, "breaches", "(I)I"⟩
abbrev cX7_breach : ByteArray := prog_1_method_16_code
def yX7_breach : MethodName := ⟨RX7, "breach", "(II)I"⟩
abbrev cX7_lanes : ByteArray := prog_1_method_17_code
def yX7_lanes : MethodName := ⟨RX7, "lanes", "()I"⟩
abbrev cX7_lane : ByteArray := prog_1_method_18_code
def yX7_lane : MethodName := ⟨RX7, "lane", "(I)I"⟩
abbrev cX7_way : ByteArray := prog_1_method_19_code
def yX7_way : MethodName := ⟨RX7, "way", "(IIIII)I"⟩
abbrev cX7_departures : ByteArray := prog_1_method_20_code
def yX7_departures : MethodName := ⟨RX7, "departures", "(III)I"⟩
abbrev cX7_departure : ByteArray := prog_1_method_21_code
def yX7_departure : MethodName := ⟨RX7, "departure", "(IIII)I"⟩
abbrev cX7_areDays : ByteArray := prog_1_method_22_code
def yX7_areDays : MethodName := ⟨RX7, "areDays", "(I)Z"⟩
abbrev cX7_isStation : ByteArray := prog_1_method_23_code
def yX7_isStation : MethodName := ⟨RX7, "isStation", "(I)Z"⟩
abbrev cX7_canTravel : ByteArray := prog_1_method_24_code
def yX7_canTravel : MethodName := ⟨RX7, "canTravel", "(III)Z"⟩
abbrev cX7_trainOf : ByteArray := prog_1_method_25_code
def yX7_trainOf : MethodName := ⟨RX7, "trainOf", "(I)LTrainBook$Train;"⟩
abbrev cX7_aboutBook : ByteArray := prog_1_method_26_code
def yX7_aboutBook : MethodName := ⟨RX7, "aboutBook", "(I)I"⟩
abbrev cX7_canBeTable : ByteArray := prog_1_method_27_code
def yX7_canBeTable : MethodName := ⟨RX7, "canBeTable", "(I)Z"⟩
def RX8 : String := "TrainBookModel"
def TX8 : u_T := fun k => match k with
  | 0 => ("TrainBookModel", "told", "I", false)
  | 1 => ("TrainBookModel", "trains", "I", false)
  | 2 => ("TrainBookModel", "change", "I", false)
  | 3 => ("TrainBookModel", "days", "[I", true)
  | 4 => ("TrainBookModel", "stops", "[I", true)
  | 5 => ("TrainBookModel", "station", "[I", true)
  | 6 => ("TrainBookModel", "comes", "[I", true)
  | 7 => ("TrainBookModel", "goes", "[I", true)
  | 8 => ("TrainBookModel", "signSet", "[I", true)
  | 9 => ("TrainBookModel", "rows", "I", false)
  | 10 => ("TrainBookModel", "columns", "I", false)
  | 11 => ("TrainBookModel", "rowStation", "[I", true)
  | 12 => ("TrainBookModel", "own", "[I", true)
  | 13 => ("TrainBookModel", "ownStops", "[I", true)
  | 14 => ("TrainBookModel", "ownStation", "[I", true)
  | 15 => ("TrainBookModel", "ownComes", "[I", true)
  | 16 => ("TrainBookModel", "ownGoes", "[I", true)
  | 17 => ("TrainBookModel", "ownRow", "[I", true)
  | 18 => ("TrainBookModel", "column", "[I", true)
  | 19 => ("TrainBookModel", "lane", "[I", true)
  | 20 => ("TrainBookModel", "laneMany", "I", false)
  | 21 => ("TrainBookModel", "far", "[I", true)
  | 22 => ("TrainBookModel", "tried", "[I", true)
  | 23 => ("TrainBookModel", "reached", "[Z", true)
  | 24 => ("TrainBookModel", "goesOnWith", "[Z", true)
  | 25 => ("TrainBookModel", "legs", "I", false)
  | 26 => ("TrainBookModel", "soon", "I", false)
  | 27 => ("TrainBookModel", "legTrain", "[I", true)
  | 28 => ("TrainBookModel", "legFrom", "[I", true)
  | 29 => ("TrainBookModel", "legTo", "[I", true)
  | 30 => ("TrainBookModel", "here", "[Z", true)
  | 31 => ("TrainBookModel", "there", "[Z", true)
  | 32 => ("TrainBookModel", "left", "[Z", true)
  | 33 => ("TrainBookModel", "departs", "I", false)
  | _ => ("TrainBookModel", "minuteOf", "[I", true)
def tyX8 : Nat → FieldType := fun k => match k with
  | 0 => .int
  | 1 => .int
  | 2 => .int
  | 3 => .array .int
  | 4 => .array .int
  | 5 => .array .int
  | 6 => .array .int
  | 7 => .array .int
  | 8 => .array .int
  | 9 => .int
  | 10 => .int
  | 11 => .array .int
  | 12 => .array .int
  | 13 => .array .int
  | 14 => .array .int
  | 15 => .array .int
  | 16 => .array .int
  | 17 => .array .int
  | 18 => .array .int
  | 19 => .array .int
  | 20 => .int
  | 21 => .array .int
  | 22 => .array .int
  | 23 => .array .boolean
  | 24 => .array .boolean
  | 25 => .int
  | 26 => .int
  | 27 => .array .int
  | 28 => .array .int
  | 29 => .array .int
  | 30 => .array .boolean
  | 31 => .array .boolean
  | 32 => .array .boolean
  | 33 => .int
  | _ => .array .int
abbrev wsX80 : List Cond := u_ws RX8 TX8 35
theorem nmX8 : ∀ a, a < 35 → ∀ b, b < 35 → a ≠ b → (TX8 a).2.1 ≠ (TX8 b).2.1 := by decide +kernel
theorem tyX8_ok : ∀ k, k < 35 → parseFieldDescriptor (TX8 k).2.2.1 = some (tyX8 k) := by decide +kernel
abbrev cX8_init : ByteArray := prog_10_method_1_code
def yX8_init : MethodName := ⟨RX8, "<init>", "()V"⟩
abbrev cX8_isTrain : ByteArray := prog_10_method_3_code
def yX8_isTrain : MethodName := ⟨RX8, "isTrain", "(I)Z"⟩
abbrev cX8_isStation : ByteArray := prog_10_method_4_code
def yX8_isStation : MethodName := ⟨RX8, "isStation", "(I)Z"⟩
abbrev cX8_isMinute : ByteArray := prog_10_method_5_code
def yX8_isMinute : MethodName := ⟨RX8, "isMinute", "(I)Z"⟩
abbrev cX8_isDays : ByteArray := prog_10_method_6_code
def yX8_isDays : MethodName := ⟨RX8, "isDays", "(I)Z"⟩
abbrev cX8_train : ByteArray := prog_10_method_7_code
def yX8_train : MethodName := ⟨RX8, "train", "(I)I"⟩
abbrev cX8_stopAt : ByteArray := prog_10_method_8_code
def yX8_stopAt : MethodName := ⟨RX8, "stopAt", "(II)I"⟩
abbrev cX8_stop : ByteArray := prog_10_method_9_code
def yX8_stop : MethodName := ⟨RX8, "stop", "(IIII)I"⟩
abbrev cX8_days : ByteArray := prog_10_method_10_code
def yX8_days : MethodName := ⟨RX8, "days", "(II)Z"⟩
abbrev cX8_cut : ByteArray := prog_10_method_11_code
def yX8_cut : MethodName := ⟨RX8, "cut", "(I)Z"⟩
abbrev cX8_shift : ByteArray := prog_10_method_12_code
def yX8_shift : MethodName := ⟨RX8, "shift", "(II)Z"⟩
abbrev cX8_sign : ByteArray := prog_10_method_13_code
def yX8_sign : MethodName := ⟨RX8, "sign", "(II)Z"⟩
abbrev cX8_change : ByteArray := prog_10_method_14_code
def yX8_change : MethodName := ⟨RX8, "change", "(I)Z"⟩
abbrev cX8_about : ByteArray := prog_10_method_15_code
def yX8_about : MethodName := ⟨RX8, "about", "(I)I"⟩
abbrev cX8_ones : ByteArray := prog_10_method_16_code
def yX8_ones : MethodName := ⟨RX8, "ones", "(I)I"⟩
abbrev cX8_signs : ByteArray := prog_10_method_17_code
def yX8_signs : MethodName := ⟨RX8, "signs", "(II)I"⟩
abbrev cX8_digit : ByteArray := prog_10_method_18_code
def yX8_digit : MethodName := ⟨RX8, "digit", "(II)I"⟩
abbrev cX8_behind : ByteArray := prog_10_method_19_code
def yX8_behind : MethodName := ⟨RX8, "behind", "(II)I"⟩
abbrev cX8_isPlace : ByteArray := prog_10_method_20_code
def yX8_isPlace : MethodName := ⟨RX8, "isPlace", "(I)Z"⟩
abbrev cX8_findRows : ByteArray := prog_10_method_21_code
def yX8_findRows : MethodName := ⟨RX8, "findRows", "()V"⟩
abbrev cX8_leaves : ByteArray := prog_10_method_22_code
def yX8_leaves : MethodName := ⟨RX8, "leaves", "(II)I"⟩
abbrev cX8_isBreach : ByteArray := prog_10_method_23_code
def yX8_isBreach : MethodName := ⟨RX8, "isBreach", "(II)Z"⟩
abbrev cX8_breachesOf : ByteArray := prog_10_method_24_code
def yX8_breachesOf : MethodName := ⟨RX8, "breachesOf", "([I)I"⟩
abbrev cX8_goesOn : ByteArray := prog_10_method_25_code
def yX8_goesOn : MethodName := ⟨RX8, "goesOn", "()Z"⟩
abbrev cX8_swap : ByteArray := prog_10_method_26_code
def yX8_swap : MethodName := ⟨RX8, "swap", "(II)V"⟩
abbrev cX8_findColumns : ByteArray := prog_10_method_27_code
def yX8_findColumns : MethodName := ⟨RX8, "findColumns", "()V"⟩
abbrev cX8_first : ByteArray := prog_10_method_28_code
def yX8_first : MethodName := ⟨RX8, "first", "(I)I"⟩
abbrev cX8_last : ByteArray := prog_10_method_29_code
def yX8_last : MethodName := ⟨RX8, "last", "(I)I"⟩
abbrev cX8_findLanes : ByteArray := prog_10_method_30_code
def yX8_findLanes : MethodName := ⟨RX8, "findLanes", "()V"⟩
abbrev cX8_isFree : ByteArray := prog_10_method_31_code
def yX8_isFree : MethodName := ⟨RX8, "isFree", "(II)Z"⟩
abbrev cX8_table : ByteArray := prog_10_method_32_code
def yX8_table : MethodName := ⟨RX8, "table", "(I)I"⟩
abbrev cX8_row : ByteArray := prog_10_method_33_code
def yX8_row : MethodName := ⟨RX8, "row", "(I)I"⟩
abbrev cX8_isColumn : ByteArray := prog_10_method_34_code
def yX8_isColumn : MethodName := ⟨RX8, "isColumn", "(I)Z"⟩
abbrev cX8_column : ByteArray := prog_10_method_35_code
def yX8_column : MethodName := ⟨RX8, "column", "(I)I"⟩
abbrev cX8_cell : ByteArray := prog_10_method_36_code
def yX8_cell : MethodName := ⟨RX8, "cell", "(III)I"⟩
abbrev cX8_breaches : ByteArray := prog_10_method_37_code
def yX8_breaches : MethodName := ⟨RX8, "breaches", "(I)I"⟩
abbrev cX8_breach : ByteArray := prog_10_method_38_code
def yX8_breach : MethodName := ⟨RX8, "breach", "(II)I"⟩
abbrev cX8_lanes : ByteArray := prog_10_method_39_code
def yX8_lanes : MethodName := ⟨RX8, "lanes", "()I"⟩
abbrev cX8_lane : ByteArray := prog_10_method_40_code
def yX8_lane : MethodName := ⟨RX8, "lane", "(I)I"⟩
abbrev cX8_runs : ByteArray := prog_10_method_41_code
def yX8_runs : MethodName := ⟨RX8, "runs", "(II)Z"⟩
abbrev cX8_canChange : ByteArray := prog_10_method_42_code
def yX8_canChange : MethodName := ⟨RX8, "canChange", "(II)Z"⟩
abbrev cX8_isBoarded : ByteArray := prog_10_method_43_code
def yX8_isBoarded : MethodName := ⟨RX8, "isBoarded", "(IIII)Z"⟩
abbrev cX8_soonest : ByteArray := prog_10_method_44_code
def yX8_soonest : MethodName := ⟨RX8, "soonest", "(IIII)I"⟩
abbrev cX8_findRest : ByteArray := prog_10_method_45_code
def yX8_findRest : MethodName := ⟨RX8, "findRest", "(II)V"⟩
abbrev cX8_canGoOn : ByteArray := prog_10_method_46_code
def yX8_canGoOn : MethodName := ⟨RX8, "canGoOn", "(III)Z"⟩
abbrev cX8_canBoard : ByteArray := prog_10_method_47_code
def yX8_canBoard : MethodName := ⟨RX8, "canBoard", "(IZII)Z"⟩
abbrev cX8_leavesAt : ByteArray := prog_10_method_48_code
def yX8_leavesAt : MethodName := ⟨RX8, "leavesAt", "(IZIII)Z"⟩
abbrev cX8_firstTrain : ByteArray := prog_10_method_49_code
def yX8_firstTrain : MethodName := ⟨RX8, "firstTrain", "(ZIIII)I"⟩
abbrev cX8_finds : ByteArray := prog_10_method_50_code
def yX8_finds : MethodName := ⟨RX8, "finds", "(IIII)Z"⟩
abbrev cX8_boardOf : ByteArray := prog_10_method_51_code
def yX8_boardOf : MethodName := ⟨RX8, "boardOf", "(IIIII)I"⟩
abbrev cX8_restGoes : ByteArray := prog_10_method_52_code
def yX8_restGoes : MethodName := ⟨RX8, "restGoes", "(III)Z"⟩
abbrev cX8_way : ByteArray := prog_10_method_53_code
def yX8_way : MethodName := ⟨RX8, "way", "(IIIII)I"⟩
abbrev cX8_findDepartures : ByteArray := prog_10_method_54_code
def yX8_findDepartures : MethodName := ⟨RX8, "findDepartures", "(III)V"⟩
abbrev cX8_isGone : ByteArray := prog_10_method_55_code
def yX8_isGone : MethodName := ⟨RX8, "isGone", "(III)Z"⟩
abbrev cX8_canDepart : ByteArray := prog_10_method_56_code
def yX8_canDepart : MethodName := ⟨RX8, "canDepart", "(III)Z"⟩
abbrev cX8_departures : ByteArray := prog_10_method_57_code
def yX8_departures : MethodName := ⟨RX8, "departures", "(III)I"⟩
abbrev cX8_departure : ByteArray := prog_10_method_58_code
def yX8_departure : MethodName := ⟨RX8, "departure", "(IIII)I"⟩
def RJ6 : String := "java/lang/Integer"
def TJ6 : u_T := fun k => match k with
  | _ => ("", "", "", false)
def tyJ6 : Nat → FieldType := fun k => match k with
  | _ => .int
abbrev wsJ60 : List Cond := u_ws RJ6 TJ6 0
theorem nmJ6 : ∀ a, a < 0 → ∀ b, b < 0 → a ≠ b → (TJ6 a).2.1 ≠ (TJ6 b).2.1 := by decide +kernel
theorem tyJ6_ok : ∀ k, k < 0 → parseFieldDescriptor (TJ6 k).2.2.1 = some (tyJ6 k) := by decide +kernel
abbrev cJ6_bitCount_0f7a4 : ByteArray := prog_11_method_49_code
def yJ6_bitCount_0f7a4 : MethodName := ⟨RJ6, "bitCount", "(I)I"⟩
def RJ9 : String := "java/lang/Math"
def TJ9 : u_T := fun k => match k with
  | _ => ("", "", "", false)
def tyJ9 : Nat → FieldType := fun k => match k with
  | _ => .int
abbrev wsJ90 : List Cond := u_ws RJ9 TJ9 0
theorem nmJ9 : ∀ a, a < 0 → ∀ b, b < 0 → a ≠ b → (TJ9 a).2.1 ≠ (TJ9 b).2.1 := by decide +kernel
theorem tyJ9_ok : ∀ k, k < 0 → parseFieldDescriptor (TJ9 k).2.2.1 = some (tyJ9 k) := by decide +kernel
abbrev cJ9_max_7cf53 : ByteArray := prog_12_method_65_code
def yJ9_max_7cf53 : MethodName := ⟨RJ9, "max", "(II)I"⟩
abbrev cJ9_min_7cf53 : ByteArray := prog_12_method_69_code
def yJ9_min_7cf53 : MethodName := ⟨RJ9, "min", "(II)I"⟩
def RJ10 : String := "java/lang/System"
def TJ10 : u_T := fun k => match k with
  | _ => ("", "", "", false)
def tyJ10 : Nat → FieldType := fun k => match k with
  | _ => .int
abbrev wsJ100 : List Cond := u_ws RJ10 TJ10 0
theorem nmJ10 : ∀ a, a < 0 → ∀ b, b < 0 → a ≠ b → (TJ10 a).2.1 ≠ (TJ10 b).2.1 := by decide +kernel
theorem tyJ10_ok : ∀ k, k < 0 → parseFieldDescriptor (TJ10 k).2.2.1 = some (tyJ10 k) := by decide +kernel
def RJ7 : String := "java/util/Arrays"
def TJ7 : u_T := fun k => match k with
  | _ => ("", "", "", false)
def tyJ7 : Nat → FieldType := fun k => match k with
  | _ => .int
abbrev wsJ70 : List Cond := u_ws RJ7 TJ7 0
theorem nmJ7 : ∀ a, a < 0 → ∀ b, b < 0 → a ≠ b → (TJ7 a).2.1 ≠ (TJ7 b).2.1 := by decide +kernel
theorem tyJ7_ok : ∀ k, k < 0 → parseFieldDescriptor (TJ7 k).2.2.1 = some (tyJ7 k) := by decide +kernel
abbrev cJ7_fill_53178 : ByteArray := prog_14_method_103_code
def yJ7_fill_53178 : MethodName := ⟨RJ7, "fill", "([II)V"⟩
def RL : String := "TrainBookLaw"
abbrev cL_law : ByteArray := code
def yL_law : MethodName := ⟨RL, "law", "([I)Z"⟩
abbrev vwCl : List vw_C := [(RX0, TX0, 6), (RX1, TX1, 3), (RX2, TX2, 9), (RX3, TX3, 1), (RX4, TX4, 7), (RX5, TX5, 6), (RX6, TX6, 16), (RX7, TX7, 6), (RX8, TX8, 35)]
end
section
/-! PICTURES OF THE HEAP. qI: the ints (fields and elements) by cell and place; qR: references by cell and place, kinds and lengths of the cells, how many cells there are. Cells are counted from the law's own start. -/
abbrev qI : Type := Nat → Nat → Int32
abbrev qR : Type := (Nat → Nat → Option Nat) × (Nat → Nat × Nat) × Nat × Nat
abbrev qG : Type := Nat × va_G × ClassId × ClassId × ClassId
def qrf (b : Nat) (r : Option Nat) : Option Nat := r.map (fun k => b + k)
def qflds (ci : Nat) (i : Nat → Int32) (p : Nat → Option Nat) : List Value := match ci with
  | 0 => [va_rf (p 0), .int (i 1), .int (i 2), .int (i 3), va_rf (p 4), va_rf (p 5)]
  | 1 => [.int (i 0), va_rf (p 1), va_rf (p 2)]
  | 2 => [.int (i 0), va_rf (p 1), .int (i 2), .int (i 3), .int (i 4), va_rf (p 5), va_rf (p 6), va_rf (p 7), va_rf (p 8)]
  | 3 => [va_rf (p 0)]
  | 4 => [va_rf (p 0), va_rf (p 1), va_rf (p 2), va_rf (p 3), va_rf (p 4), va_rf (p 5), .int (i 6)]
  | 5 => [.int (i 0), .int (i 1), va_rf (p 2), va_rf (p 3), va_rf (p 4), va_rf (p 5)]
  | 6 => [va_rf (p 0), .int (i 1), .int (i 2), .int (i 3), va_rf (p 4), va_rf (p 5), .int (i 6), .int (i 7), va_rf (p 8), va_rf (p 9), va_rf (p 10), va_rf (p 11), va_rf (p 12), .int (i 13), va_rf (p 14), .int (i 15)]
  | 7 => [va_rf (p 0), va_rf (p 1), va_rf (p 2), va_rf (p 3), .int (i 4), .int (i 5)]
  | _ => [.int (i 0), .int (i 1), .int (i 2), va_rf (p 3), va_rf (p 4), va_rf (p 5), va_rf (p 6), va_rf (p 7), va_rf (p 8), .int (i 9), .int (i 10), va_rf (p 11), va_rf (p 12), va_rf (p 13), va_rf (p 14), va_rf (p 15), va_rf (p 16), va_rf (p 17), va_rf (p 18), va_rf (p 19), .int (i 20), va_rf (p 21), va_rf (p 22), va_rf (p 23), va_rf (p 24), .int (i 25), .int (i 26), va_rf (p 27), va_rf (p 28), va_rf (p 29), va_rf (p 30), va_rf (p 31), va_rf (p 32), .int (i 33), va_rf (p 34)]
/-- the kind that a reference in a place of a cell of a kind has -/
def qfk (c k : Nat) : Nat := match c, k with
  | 0, 0 => 9
  | 0, 4 => 9
  | 0, 5 => 9
  | 1, 1 => 9
  | 1, 2 => 9
  | 2, 1 => 9
  | 2, 5 => 9
  | 2, 6 => 9
  | 2, 7 => 9
  | 2, 8 => 9
  | 3, 0 => 9
  | 4, 0 => 11
  | 4, 1 => 9
  | 4, 2 => 9
  | 4, 3 => 2
  | 4, 4 => 0
  | 4, 5 => 1
  | 5, 2 => 9
  | 5, 3 => 9
  | 5, 4 => 9
  | 5, 5 => 9
  | 6, 0 => 11
  | 6, 4 => 9
  | 6, 5 => 9
  | 6, 8 => 9
  | 6, 9 => 9
  | 6, 10 => 9
  | 6, 11 => 9
  | 6, 12 => 9
  | 6, 14 => 9
  | 7, 0 => 11
  | 7, 1 => 3
  | 7, 2 => 4
  | 7, 3 => 6
  | 8, 3 => 9
  | 8, 4 => 9
  | 8, 5 => 9
  | 8, 6 => 9
  | 8, 7 => 9
  | 8, 8 => 9
  | 8, 11 => 9
  | 8, 12 => 9
  | 8, 13 => 9
  | 8, 14 => 9
  | 8, 15 => 9
  | 8, 16 => 9
  | 8, 17 => 9
  | 8, 18 => 9
  | 8, 19 => 9
  | 8, 21 => 9
  | 8, 22 => 9
  | 8, 23 => 10
  | 8, 24 => 10
  | 8, 27 => 9
  | 8, 28 => 9
  | 8, 29 => 9
  | 8, 30 => 10
  | 8, 31 => 10
  | 8, 32 => 10
  | 8, 34 => 9
  | 11, _ => 5
  | _, _ => 0
def qcell (G : qG) (I : qI) (R : qR) (a : Nat) : va_E := match (R.2.1 a).1 with
  | 9 => .inl (G.2.2.1, (R.2.1 a).2, .inl (I a))
  | 10 => .inl (G.2.2.2.1, (R.2.1 a).2, .inl (I a))
  | 11 => .inl (G.2.2.2.2, (R.2.1 a).2, .inr (.inr (.inr (.inr (fun j => qrf G.1 (R.1 a j))))))
  | ci => .inr (ci, qflds ci (I a) (fun j => qrf G.1 (R.1 a j)))
def qw (G : qG) (I : qI) (R : qR) : va_W := (List.range R.2.2.1).map (fun k => (G.1 + k, qcell G I R k))
def qRP (G : qG) (I : qI) (R : qR) (H : Heap) : Prop := va_P G.2.1 vwCl (qw G I R) H
def qA (G : qG) : Nat → Prop := fun q => G.1 ≤ q
def qtys (G : qG) : List (ClassId × FieldType) := [(G.2.2.1, .int), (G.2.2.2.1, .boolean), (G.2.2.2.2, .object RX5)]
theorem qw_at (G : qG) (I : qI) (R : qR) {k : Nat} (h : k < R.2.2.1) : (qw G I R)[k]? = some (G.1 + k, qcell G I R k) := by
  simp [qw, h]
theorem qw_of {G : qG} {I : qI} {R : qR} {k : Nat} {q : Nat × va_E} (h : (qw G I R)[k]? = some q) : k < R.2.2.1 ∧ q = (G.1 + k, qcell G I R k) := by
  have hl : k < R.2.2.1 := by
    have := (List.getElem?_eq_some_iff.mp h).1
    simpa [qw] using this
  rw [qw_at G I R hl] at h
  exact ⟨hl, (Option.some.inj h).symm⟩
theorem qD (G : qG) (I : qI) (R : qR) : va_D (qA G) (qw G I R) := by
  refine ⟨fun i j p q hp hq h => ?_, fun k q hq => ?_⟩
  · obtain ⟨-, rfl⟩ := qw_of hp
    obtain ⟨-, rfl⟩ := qw_of hq
    have h' : G.1 + i = G.1 + j := h
    omega
  · obtain ⟨-, rfl⟩ := qw_of hq
    exact Nat.le_add_right _ _
/-- one cell moved -/
theorem qw_set (G : qG) (I I' : qI) (R R' : qR) {k : Nat} (hn : R'.2.2.1 = R.2.2.1) (h : ∀ j, j ≠ k → qcell G I' R' j = qcell G I R j) : (qw G I R).set k (G.1 + k, qcell G I' R' k) = qw G I' R' := by
  apply List.ext_getElem?
  intro j
  rw [List.getElem?_set]
  by_cases hj : k = j
  · subst hj
    by_cases hl : k < R.2.2.1
    · rw [if_pos rfl, qw_at G I' R' (by omega)]
      simp [qw, hl]
    · simp [qw, hl, hn]
  · rw [if_neg hj]
    by_cases hl : j < R.2.2.1
    · rw [qw_at G I R hl, qw_at G I' R' (by omega), h j (fun e => hj e.symm)]
    · simp [qw, hl, hn]
/-- one cell more -/
theorem qw_push (G : qG) (I I' : qI) (R R' : qR) (hn : R'.2.2.1 = R.2.2.1 + 1) (h : ∀ j, j < R.2.2.1 → qcell G I' R' j = qcell G I R j) : qw G I R ++ [(G.1 + R.2.2.1, qcell G I' R' R.2.2.1)] = qw G I' R' := by
  unfold qw
  rw [hn, List.range_succ, List.map_append]
  refine congrArg (· ++ _) ?_
  exact List.map_congr_left (fun j hj => by rw [h j (List.mem_range.mp hj)])
/-! THE WORDS: of the tables' words those that stay -/
def wW : List Cond := lw_tbl.filter goodWord
theorem wW_in {w : Cond} (h : w ∈ lw_tbl) (hg : goodWord w = true) : w ∈ wW := List.mem_filter.mpr ⟨h, hg⟩
theorem wW_at (i : Nat) {w : Cond} (h : lw_tbl[i]? = some w) (hg : goodWord w = true) : w ∈ wW := wW_in (List.mem_of_getElem? h) hg
theorem wW_good : GoodIn wW wW := fun w h => ⟨h, good_of_word (List.mem_filter.mp h).2⟩
abbrev qM : Type := MethodName × ByteArray × Nat × Option FieldType
def qws (M : qM) : List Cond := .code M.1 M.2.1 M.2.2.1 M.2.2.2 :: wW
theorem qws_good {M : qM} (h : Cond.code M.1 M.2.1 M.2.2.1 M.2.2.2 ∈ wW) : GoodIn wW (qws M) := fun w hw => by
  rcases List.mem_cons.mp hw with rfl | hw
  · exact wW_good _ h
  · exact wW_good w hw
/-- what holds of the tables -/
def qNest : List Cond := lw_tbl.filter (fun w => match w with | .methodLinkNest .. => true | _ => false)
def qK (G : qG) (U : State) : Prop := va_K G.2.1 vwCl (qtys G) U ∧ (∀ w ∈ qNest, va_Nw w U) ∧ va_AO RX5 U
theorem qK.moved {G : qG} {u U : State} (hW : u.WarmedH U.vm) (h : qK G u) : qK G U := by
  refine ⟨va_K.moved hW.alike h.1, fun w hw => ?_, h.2.2.moved hW.alike⟩
  have h1 := h.2.1 w hw
  have h2 := (List.mem_filter.mp hw).2
  cases w <;> first | exact va_Nw.warmM hW h1 | (simp at h2)
theorem qK.same {G : qG} {u U : State} (hW : U.vm = u.vm) (h : qK G u) : qK G U := by
  refine ⟨va_K.moved (u := u) (by rw [hW]; exact Vm.Alike.refl _) h.1, fun w hw => ?_, h.2.2.moved (by rw [hW]; exact Vm.Alike.refl _)⟩
  have h1 := h.2.1 w hw
  have h2 := (List.mem_filter.mp hw).2
  cases w <;> first | exact va_Nw.same rfl hW.symm h1 | (simp at h2)
abbrev qZ : Type := Launch × qG × qM × List Value × (State → Prop) × Room × (Nat × Nat) × (List Frame → State → State → Prop)
abbrev zl (Z : qZ) : Launch := Z.1
abbrev zG (Z : qZ) : qG := Z.2.1
abbrev zM (Z : qZ) : qM := Z.2.2.1
abbrev zc (Z : qZ) : ByteArray := Z.2.2.1.2.1
abbrev zn (Z : qZ) : Nat := Z.2.2.1.2.2.1
abbrev zA (Z : qZ) : List Value := Z.2.2.2.1
abbrev zE (Z : qZ) : State → Prop := Z.2.2.2.2.1
abbrev zR (Z : qZ) : Room := Z.2.2.2.2.2.1
abbrev zN (Z : qZ) : Nat := Z.2.2.2.2.2.2.1.1
abbrev zS (Z : qZ) : Nat := Z.2.2.2.2.2.2.1.2
abbrev zQ (Z : qZ) : List Frame → State → State → Prop := Z.2.2.2.2.2.2.2
def qCX (Z : qZ) (p : Program) (s : State) (m : MethodId) (meth : Method) (c : Code) : Prop :=
  p.tables.exec = Jvm.exec ∧ c.code = zc Z ∧ meth.sig.returnType = (zM Z).2.2.2 ∧ c.maxLocals = zn Z ∧ s.vm.findClass (zM Z).1.cls = some m.cls ∧ (∀ w ∈ wW, w.before (zA Z).toArray s = true) ∧ meth.locks = false ∧ meth.name = (zM Z).1.name ∧ qK (zG Z) s ∧ s.heap.size = (zG Z).1 + zN Z ∧ zE Z s
/-- THE JUDGEMENT: at pc, with locals lv, stack st, heap picture (I, R), the machine comes to the method's end as Z has it -/
def AW (Z : qZ) (pc : Nat) (lv : List (Nat × Value)) (st : List Value) (I : qI) (R : qR) : Prop :=
  ∀ (p : Program) (e : Env) (s : State) (m : MethodId) (below : List Frame) (meth : Method) (c : Code) (H : Heap) (locs : List Loc) (ls : Array Slot), qCX Z p s m meth c → (qRP (zG Z) I R H ∧ zN Z ≤ R.2.2.1 ∧ zS Z ≤ R.2.2.2) → va_S (qA (zG Z)) s.heap H locs → lv_has ls (zn Z) lv →
    W p (zl Z) e (zR Z) s m (zA Z).toArray below meth c H locs (R.2.2.1 - zN Z) (R.2.2.2 - zS Z) (zQ Z below s) (F0 m pc ls st)
section AWR
variable {Z : qZ} {pc : Nat} {lv : List (Nat × Value)} {st : List Value} {I : qI} {R : qR}
theorem aw_sub (ks : List Nat) {lv' : List (Nat × Value)} (hl : lv_pick lv ks = lv') (h : AW Z pc lv' st I R) : AW Z pc lv st I R :=
  fun p e s m below meth c H locs ls C hR hS hv => h p e s m below meth c H locs ls C hR hS (lv_sub hv ks hl)
theorem aw_pc {pc' : Nat} (hp : pc = pc') (h : AW Z pc' lv st I R) : AW Z pc lv st I R := hp ▸ h
theorem aw_iconst {j : Int} {v : Int32} (hd : decode (zc Z) pc = .ok (.iconst j, 1)) (hv : Int32.ofInt j = v) (h : AW Z (pc + 1) lv (.int v :: st) I R) : AW Z pc lv st I R :=
  fun p e s m below meth c H locs ls C hR hS hw => lv_iconst C.1 C.2.1 hd hv (h p e s m below meth c H locs ls C hR hS hw)
theorem aw_bipush {j : Int} {v : Int32} (hd : decode (zc Z) pc = .ok (.bipush j, 2)) (hv : (Int8.ofInt j).toInt32 = v) (h : AW Z (pc + 2) lv (.int v :: st) I R) : AW Z pc lv st I R :=
  fun p e s m below meth c H locs ls C hR hS hw => lv_bipush C.1 C.2.1 hd hv (h p e s m below meth c H locs ls C hR hS hw)
theorem aw_sipush {j : Int} {v : Int32} (hd : decode (zc Z) pc = .ok (.sipush j, 3)) (hv : (Int16.ofInt j).toInt32 = v) (h : AW Z (pc + 3) lv (.int v :: st) I R) : AW Z pc lv st I R :=
  fun p e s m below meth c H locs ls C hR hS hw => lv_sipush C.1 C.2.1 hd hv (h p e s m below meth c H locs ls C hR hS hw)
theorem aw_lconst {j : Fin 2} {v : Int64} (hd : decode (zc Z) pc = .ok (.lconst j, 1)) (hv : Int64.ofNat (j : Nat) = v) (h : AW Z (pc + 1) lv (.long v :: st) I R) : AW Z pc lv st I R :=
  fun p e s m below meth c H locs ls C hR hS hw => lv_lconst C.1 C.2.1 hd hv (h p e s m below meth c H locs ls C hR hS hw)
theorem aw_ldc {own : String} {index : Nat} {v : Int32} (hw : Cond.constant own index v ∈ wW) (ho : (zM Z).1.cls = own) (hd : decode (zc Z) pc = .ok (.ldc index, 2)) (h : AW Z (pc + 2) lv (.int v :: st) I R) : AW Z pc lv st I R :=
  fun p e s m below meth c H locs ls C hR hS hv => lv_ldc C.1 C.2.1 C.2.2.2.2.1 (C.2.2.2.2.2.1 _ (ho ▸ hw)) hd (h p e s m below meth c H locs ls C hR hS hv)
theorem aw_ldcw {own : String} {index : Nat} {v : Int32} (hw : Cond.constant own index v ∈ wW) (ho : (zM Z).1.cls = own) (hd : decode (zc Z) pc = .ok (.ldc_w index, 3)) (h : AW Z (pc + 3) lv (.int v :: st) I R) : AW Z pc lv st I R :=
  fun p e s m below meth c H locs ls C hR hS hv => lv_ldcw C.1 C.2.1 C.2.2.2.2.1 (C.2.2.2.2.2.1 _ (ho ▸ hw)) hd (h p e s m below meth c H locs ls C hR hS hv)
theorem aw_ldc2 {own : String} {index : Nat} {v : Int64} (hw : Cond.constantLong own index v ∈ wW) (ho : (zM Z).1.cls = own) (hd : decode (zc Z) pc = .ok (.ldc2_w index, 3)) (h : AW Z (pc + 3) lv (.long v :: st) I R) : AW Z pc lv st I R :=
  fun p e s m below meth c H locs ls C hR hS hv => lv_ldc2 C.1 C.2.1 C.2.2.2.2.1 (C.2.2.2.2.2.1 _ (ho ▸ hw)) hd (h p e s m below meth c H locs ls C hR hS hv)
theorem aw_iload_n {j : Fin 4} {x : Int32} (hd : decode (zc Z) pc = .ok (.iload_n j, 1)) (q : Nat) {i : Nat} (hl : lv[q]? = some (i, .int x)) (hi : (j : Nat) = i) (h : AW Z (pc + 1) lv (.int x :: st) I R) : AW Z pc lv st I R :=
  fun p e s m below meth c H locs ls C hR hS hv => lv_iload_n C.1 C.2.1 hd hi (lv_at hv q hl) (h p e s m below meth c H locs ls C hR hS hv)
theorem aw_iload {i : Nat} {x : Int32} (hd : decode (zc Z) pc = .ok (.iload i, 2)) (q : Nat) (hl : lv[q]? = some (i, .int x)) (h : AW Z (pc + 2) lv (.int x :: st) I R) : AW Z pc lv st I R :=
  fun p e s m below meth c H locs ls C hR hS hv => lv_iload C.1 C.2.1 hd (lv_at hv q hl) (h p e s m below meth c H locs ls C hR hS hv)
theorem aw_lload_n {j : Fin 4} {x : Int64} (hd : decode (zc Z) pc = .ok (.lload_n j, 1)) (q : Nat) {i : Nat} (hl : lv[q]? = some (i, .long x)) (hi : (j : Nat) = i) (h : AW Z (pc + 1) lv (.long x :: st) I R) : AW Z pc lv st I R :=
  fun p e s m below meth c H locs ls C hR hS hv => lv_lload_n C.1 C.2.1 hd hi (lv_at hv q hl) (h p e s m below meth c H locs ls C hR hS hv)
theorem aw_lload {i : Nat} {x : Int64} (hd : decode (zc Z) pc = .ok (.lload i, 2)) (q : Nat) (hl : lv[q]? = some (i, .long x)) (h : AW Z (pc + 2) lv (.long x :: st) I R) : AW Z pc lv st I R :=
  fun p e s m below meth c H locs ls C hR hS hv => lv_lload C.1 C.2.1 hd (lv_at hv q hl) (h p e s m below meth c H locs ls C hR hS hv)
theorem aw_aload_n {j : Fin 4} {x : Nat} (hd : decode (zc Z) pc = .ok (.aload_n j, 1)) (q : Nat) {i : Nat} (hl : lv[q]? = some (i, .ref x)) (hi : (j : Nat) = i) (h : AW Z (pc + 1) lv (.ref x :: st) I R) : AW Z pc lv st I R :=
  fun p e s m below meth c H locs ls C hR hS hv => lv_aload_n C.1 C.2.1 hd hi (lv_at hv q hl) (h p e s m below meth c H locs ls C hR hS hv)
theorem aw_aload {i : Nat} {x : Nat} (hd : decode (zc Z) pc = .ok (.aload i, 2)) (q : Nat) (hl : lv[q]? = some (i, .ref x)) (h : AW Z (pc + 2) lv (.ref x :: st) I R) : AW Z pc lv st I R :=
  fun p e s m below meth c H locs ls C hR hS hv => lv_aload C.1 C.2.1 hd (lv_at hv q hl) (h p e s m below meth c H locs ls C hR hS hv)
theorem aw_aload_nN {j : Fin 4} (hd : decode (zc Z) pc = .ok (.aload_n j, 1)) (q : Nat) {i : Nat} (hl : lv[q]? = some (i, .null)) (hi : (j : Nat) = i) (h : AW Z (pc + 1) lv (.null :: st) I R) : AW Z pc lv st I R :=
  fun p e s m below meth c H locs ls C hR hS hv => lv_aload_nN C.1 C.2.1 hd hi (lv_at hv q hl) (h p e s m below meth c H locs ls C hR hS hv)
theorem aw_istore_n {j : Fin 4} {i : Nat} {x : Int32} {lv' : List (Nat × Value)} (hd : decode (zc Z) pc = .ok (.istore_n j, 1)) (hi : (j : Nat) = i) (hn : i < zn Z) (hl : (i, Value.int x) :: lv.filter (fun q => !(q.1 == i) && !(q.1 + 1 == i && q.2.category == 2)) = lv') (h : AW Z (pc + 1) lv' st I R) : AW Z pc lv (.int x :: st) I R :=
  fun p e s m below meth c H locs ls C hR hS hv => lv_istore_n C.1 C.2.1 hd hi hv hn hl (fun ls hv => h p e s m below meth c H locs ls C hR hS hv)
theorem aw_istore {i : Nat} {x : Int32} {lv' : List (Nat × Value)} (hd : decode (zc Z) pc = .ok (.istore i, 2)) (hn : i < zn Z) (hl : (i, Value.int x) :: lv.filter (fun q => !(q.1 == i) && !(q.1 + 1 == i && q.2.category == 2)) = lv') (h : AW Z (pc + 2) lv' st I R) : AW Z pc lv (.int x :: st) I R :=
  fun p e s m below meth c H locs ls C hR hS hv => lv_istore C.1 C.2.1 hd hv hn hl (fun ls hv => h p e s m below meth c H locs ls C hR hS hv)
theorem aw_lstore_n {j : Fin 4} {i : Nat} {x : Int64} {lv' : List (Nat × Value)} (hd : decode (zc Z) pc = .ok (.lstore_n j, 1)) (hi : (j : Nat) = i) (hn : i + 1 < zn Z) (hl : (i, Value.long x) :: lv.filter (fun q => !(q.1 == i) && (!(q.1 == i + 1) && !(q.1 + 1 == i && q.2.category == 2))) = lv') (h : AW Z (pc + 1) lv' st I R) : AW Z pc lv (.long x :: st) I R :=
  fun p e s m below meth c H locs ls C hR hS hv => lv_lstore_n C.1 C.2.1 hd hi hv hn hl (fun ls hv => h p e s m below meth c H locs ls C hR hS hv)
theorem aw_lstore {i : Nat} {x : Int64} {lv' : List (Nat × Value)} (hd : decode (zc Z) pc = .ok (.lstore i, 2)) (hn : i + 1 < zn Z) (hl : (i, Value.long x) :: lv.filter (fun q => !(q.1 == i) && (!(q.1 == i + 1) && !(q.1 + 1 == i && q.2.category == 2))) = lv') (h : AW Z (pc + 2) lv' st I R) : AW Z pc lv (.long x :: st) I R :=
  fun p e s m below meth c H locs ls C hR hS hv => lv_lstore C.1 C.2.1 hd hv hn hl (fun ls hv => h p e s m below meth c H locs ls C hR hS hv)
theorem aw_astore_n {j : Fin 4} {i : Nat} {x : Nat} {lv' : List (Nat × Value)} (hd : decode (zc Z) pc = .ok (.astore_n j, 1)) (hi : (j : Nat) = i) (hn : i < zn Z) (hl : (i, Value.ref x) :: lv.filter (fun q => !(q.1 == i) && !(q.1 + 1 == i && q.2.category == 2)) = lv') (h : AW Z (pc + 1) lv' st I R) : AW Z pc lv (.ref x :: st) I R :=
  fun p e s m below meth c H locs ls C hR hS hv => lv_astore_n C.1 C.2.1 hd hi hv hn hl (fun ls hv => h p e s m below meth c H locs ls C hR hS hv)
theorem aw_astore {i : Nat} {x : Nat} {lv' : List (Nat × Value)} (hd : decode (zc Z) pc = .ok (.astore i, 2)) (hn : i < zn Z) (hl : (i, Value.ref x) :: lv.filter (fun q => !(q.1 == i) && !(q.1 + 1 == i && q.2.category == 2)) = lv') (h : AW Z (pc + 2) lv' st I R) : AW Z pc lv (.ref x :: st) I R :=
  fun p e s m below meth c H locs ls C hR hS hv => lv_astore C.1 C.2.1 hd hv hn hl (fun ls hv => h p e s m below meth c H locs ls C hR hS hv)
theorem aw_astore_nN {j : Fin 4} {i : Nat} {lv' : List (Nat × Value)} (hd : decode (zc Z) pc = .ok (.astore_n j, 1)) (hi : (j : Nat) = i) (hn : i < zn Z) (hl : (i, Value.null) :: lv.filter (fun q => !(q.1 == i) && !(q.1 + 1 == i && q.2.category == 2)) = lv') (h : AW Z (pc + 1) lv' st I R) : AW Z pc lv (.null :: st) I R :=
  fun p e s m below meth c H locs ls C hR hS hv => lv_astore_nN C.1 C.2.1 hd hi hv hn hl (fun ls hv => h p e s m below meth c H locs ls C hR hS hv)
theorem aw_iinc {i q : Nat} {j : Int} {x v : Int32} {lv' : List (Nat × Value)} (hd : decode (zc Z) pc = .ok (.iinc i j, 3)) (hk : lv[q]? = some (i, .int x)) (hv : x + Int32.ofInt j = v) (hn : i < zn Z) (hl : (i, Value.int v) :: lv.filter (fun q => !(q.1 == i) && !(q.1 + 1 == i && q.2.category == 2)) = lv') (h : AW Z (pc + 3) lv' st I R) : AW Z pc lv st I R :=
  fun p e s m below meth c H locs ls C hR hS hw => lv_iinc C.1 C.2.1 hd hw hk hv hn hl (fun ls hv => h p e s m below meth c H locs ls C hR hS hv)
theorem aw_iadd {x y : Int32} (hd : decode (zc Z) pc = .ok (.iadd, 1)) (h : AW Z (pc + 1) lv (.int (x + y) :: st) I R) : AW Z pc lv (.int y :: .int x :: st) I R :=
  fun p e s m below meth c H locs ls C hR hS hv => lv_iadd C.1 C.2.1 hd (h p e s m below meth c H locs ls C hR hS hv)
theorem aw_isub {x y : Int32} (hd : decode (zc Z) pc = .ok (.isub, 1)) (h : AW Z (pc + 1) lv (.int (x - y) :: st) I R) : AW Z pc lv (.int y :: .int x :: st) I R :=
  fun p e s m below meth c H locs ls C hR hS hv => lv_isub C.1 C.2.1 hd (h p e s m below meth c H locs ls C hR hS hv)
theorem aw_imul {x y : Int32} (hd : decode (zc Z) pc = .ok (.imul, 1)) (h : AW Z (pc + 1) lv (.int (x * y) :: st) I R) : AW Z pc lv (.int y :: .int x :: st) I R :=
  fun p e s m below meth c H locs ls C hR hS hv => lv_imul C.1 C.2.1 hd (h p e s m below meth c H locs ls C hR hS hv)
theorem aw_iand {x y : Int32} (hd : decode (zc Z) pc = .ok (.iand, 1)) (h : AW Z (pc + 1) lv (.int (x &&& y) :: st) I R) : AW Z pc lv (.int y :: .int x :: st) I R :=
  fun p e s m below meth c H locs ls C hR hS hv => lv_iand C.1 C.2.1 hd (h p e s m below meth c H locs ls C hR hS hv)
theorem aw_ior {x y : Int32} (hd : decode (zc Z) pc = .ok (.ior, 1)) (h : AW Z (pc + 1) lv (.int (x ||| y) :: st) I R) : AW Z pc lv (.int y :: .int x :: st) I R :=
  fun p e s m below meth c H locs ls C hR hS hv => lv_ior C.1 C.2.1 hd (h p e s m below meth c H locs ls C hR hS hv)
theorem aw_ixor {x y : Int32} (hd : decode (zc Z) pc = .ok (.ixor, 1)) (h : AW Z (pc + 1) lv (.int (x ^^^ y) :: st) I R) : AW Z pc lv (.int y :: .int x :: st) I R :=
  fun p e s m below meth c H locs ls C hR hS hv => lv_ixor C.1 C.2.1 hd (h p e s m below meth c H locs ls C hR hS hv)
theorem aw_ishl {x y : Int32} (hd : decode (zc Z) pc = .ok (.ishl, 1)) (h : AW Z (pc + 1) lv (.int (x <<< (y &&& 31)) :: st) I R) : AW Z pc lv (.int y :: .int x :: st) I R :=
  fun p e s m below meth c H locs ls C hR hS hv => lv_ishl C.1 C.2.1 hd (h p e s m below meth c H locs ls C hR hS hv)
theorem aw_ishr {x y : Int32} (hd : decode (zc Z) pc = .ok (.ishr, 1)) (h : AW Z (pc + 1) lv (.int (x >>> (y &&& 31)) :: st) I R) : AW Z pc lv (.int y :: .int x :: st) I R :=
  fun p e s m below meth c H locs ls C hR hS hv => lv_ishr C.1 C.2.1 hd (h p e s m below meth c H locs ls C hR hS hv)
theorem aw_iushr {x y : Int32} (hd : decode (zc Z) pc = .ok (.iushr, 1)) (h : AW Z (pc + 1) lv (.int ((x.toUInt32 >>> (y.toUInt32 &&& Int32.toUInt32 31)).toInt32) :: st) I R) : AW Z pc lv (.int y :: .int x :: st) I R :=
  fun p e s m below meth c H locs ls C hR hS hv => lv_iushr C.1 C.2.1 hd rfl (h p e s m below meth c H locs ls C hR hS hv)
theorem aw_idiv {x y : Int32} (hd : decode (zc Z) pc = .ok (.idiv, 1)) (hy : ¬ y = 0) (h : AW Z (pc + 1) lv (.int (x / y) :: st) I R) : AW Z pc lv (.int y :: .int x :: st) I R :=
  fun p e s m below meth c H locs ls C hR hS hv => lv_idiv C.1 C.2.1 hd hy (h p e s m below meth c H locs ls C hR hS hv)
theorem aw_irem {x y : Int32} (hd : decode (zc Z) pc = .ok (.irem, 1)) (hy : ¬ y = 0) (h : AW Z (pc + 1) lv (.int (x - x / y * y) :: st) I R) : AW Z pc lv (.int y :: .int x :: st) I R :=
  fun p e s m below meth c H locs ls C hR hS hv => lv_irem C.1 C.2.1 hd hy (h p e s m below meth c H locs ls C hR hS hv)
theorem aw_ladd {x y : Int64} (hd : decode (zc Z) pc = .ok (.ladd, 1)) (h : AW Z (pc + 1) lv (.long (x + y) :: st) I R) : AW Z pc lv (.long y :: .long x :: st) I R :=
  fun p e s m below meth c H locs ls C hR hS hv => lv_ladd C.1 C.2.1 hd (h p e s m below meth c H locs ls C hR hS hv)
theorem aw_i2l {x : Int32} (hd : decode (zc Z) pc = .ok (.i2l, 1)) (h : AW Z (pc + 1) lv (.long x.toInt64 :: st) I R) : AW Z pc lv (.int x :: st) I R :=
  fun p e s m below meth c H locs ls C hR hS hv => lv_i2l C.1 C.2.1 hd rfl (h p e s m below meth c H locs ls C hR hS hv)
theorem aw_dup {va : Value} (hd : decode (zc Z) pc = .ok (.dup, 1)) (hc : va.category = 1) (h : AW Z (pc + 1) lv (va :: va :: st) I R) : AW Z pc lv (va :: st) I R :=
  fun p e s m below meth c H locs ls C hR hS hv => lv_dup C.1 C.2.1 hd hc (h p e s m below meth c H locs ls C hR hS hv)
theorem aw_dup2 {va vb : Value} (hd : decode (zc Z) pc = .ok (.dup2, 1)) (hc : va.category = 1) (hc2 : vb.category = 1) (h : AW Z (pc + 1) lv (va :: vb :: va :: vb :: st) I R) : AW Z pc lv (va :: vb :: st) I R :=
  fun p e s m below meth c H locs ls C hR hS hv => lv_dup2_11 C.1 C.2.1 hd hc hc2 (h p e s m below meth c H locs ls C hR hS hv)
theorem aw_if_eq {x : Int32} {off : Int} {tgt : Nat} (hd : decode (zc Z) pc = .ok (.ifCond .eq off, 3)) (ht : (pc : Int) + off = (tgt : Int)) (h1 : x = 0 → AW Z tgt lv st I R) (h2 : ¬ x = 0 → AW Z (pc + 3) lv st I R) : AW Z pc lv (.int x :: st) I R :=
  fun p e s m below meth c H locs ls C hR hS hv => lv_if_eq C.1 C.2.1 hd ht (fun q => h1 q p e s m below meth c H locs ls C hR hS hv) (fun q => h2 q p e s m below meth c H locs ls C hR hS hv)
theorem aw_icmp_eq {x y : Int32} {off : Int} {tgt : Nat} (hd : decode (zc Z) pc = .ok (.if_icmp .eq off, 3)) (ht : (pc : Int) + off = (tgt : Int)) (h1 : x = y → AW Z tgt lv st I R) (h2 : ¬ x = y → AW Z (pc + 3) lv st I R) : AW Z pc lv (.int y :: .int x :: st) I R :=
  fun p e s m below meth c H locs ls C hR hS hv => lv_icmp_eq C.1 C.2.1 hd ht (fun q => h1 q p e s m below meth c H locs ls C hR hS hv) (fun q => h2 q p e s m below meth c H locs ls C hR hS hv)
theorem aw_if_ne {x : Int32} {off : Int} {tgt : Nat} (hd : decode (zc Z) pc = .ok (.ifCond .ne off, 3)) (ht : (pc : Int) + off = (tgt : Int)) (h1 : ¬ x = 0 → AW Z tgt lv st I R) (h2 : x = 0 → AW Z (pc + 3) lv st I R) : AW Z pc lv (.int x :: st) I R :=
  fun p e s m below meth c H locs ls C hR hS hv => lv_if_ne C.1 C.2.1 hd ht (fun q => h1 q p e s m below meth c H locs ls C hR hS hv) (fun q => h2 q p e s m below meth c H locs ls C hR hS hv)
theorem aw_icmp_ne {x y : Int32} {off : Int} {tgt : Nat} (hd : decode (zc Z) pc = .ok (.if_icmp .ne off, 3)) (ht : (pc : Int) + off = (tgt : Int)) (h1 : ¬ x = y → AW Z tgt lv st I R) (h2 : x = y → AW Z (pc + 3) lv st I R) : AW Z pc lv (.int y :: .int x :: st) I R :=
  fun p e s m below meth c H locs ls C hR hS hv => lv_icmp_ne C.1 C.2.1 hd ht (fun q => h1 q p e s m below meth c H locs ls C hR hS hv) (fun q => h2 q p e s m below meth c H locs ls C hR hS hv)
theorem aw_if_lt {x : Int32} {off : Int} {tgt : Nat} (hd : decode (zc Z) pc = .ok (.ifCond .lt off, 3)) (ht : (pc : Int) + off = (tgt : Int)) (h1 : x < 0 → AW Z tgt lv st I R) (h2 : ¬ x < 0 → AW Z (pc + 3) lv st I R) : AW Z pc lv (.int x :: st) I R :=
  fun p e s m below meth c H locs ls C hR hS hv => lv_if_lt C.1 C.2.1 hd ht (fun q => h1 q p e s m below meth c H locs ls C hR hS hv) (fun q => h2 q p e s m below meth c H locs ls C hR hS hv)
theorem aw_icmp_lt {x y : Int32} {off : Int} {tgt : Nat} (hd : decode (zc Z) pc = .ok (.if_icmp .lt off, 3)) (ht : (pc : Int) + off = (tgt : Int)) (h1 : x < y → AW Z tgt lv st I R) (h2 : ¬ x < y → AW Z (pc + 3) lv st I R) : AW Z pc lv (.int y :: .int x :: st) I R :=
  fun p e s m below meth c H locs ls C hR hS hv => lv_icmp_lt C.1 C.2.1 hd ht (fun q => h1 q p e s m below meth c H locs ls C hR hS hv) (fun q => h2 q p e s m below meth c H locs ls C hR hS hv)
theorem aw_if_ge {x : Int32} {off : Int} {tgt : Nat} (hd : decode (zc Z) pc = .ok (.ifCond .ge off, 3)) (ht : (pc : Int) + off = (tgt : Int)) (h1 : 0 ≤ x → AW Z tgt lv st I R) (h2 : ¬ 0 ≤ x → AW Z (pc + 3) lv st I R) : AW Z pc lv (.int x :: st) I R :=
  fun p e s m below meth c H locs ls C hR hS hv => lv_if_ge C.1 C.2.1 hd ht (fun q => h1 q p e s m below meth c H locs ls C hR hS hv) (fun q => h2 q p e s m below meth c H locs ls C hR hS hv)
theorem aw_icmp_ge {x y : Int32} {off : Int} {tgt : Nat} (hd : decode (zc Z) pc = .ok (.if_icmp .ge off, 3)) (ht : (pc : Int) + off = (tgt : Int)) (h1 : y ≤ x → AW Z tgt lv st I R) (h2 : ¬ y ≤ x → AW Z (pc + 3) lv st I R) : AW Z pc lv (.int y :: .int x :: st) I R :=
  fun p e s m below meth c H locs ls C hR hS hv => lv_icmp_ge C.1 C.2.1 hd ht (fun q => h1 q p e s m below meth c H locs ls C hR hS hv) (fun q => h2 q p e s m below meth c H locs ls C hR hS hv)
theorem aw_if_gt {x : Int32} {off : Int} {tgt : Nat} (hd : decode (zc Z) pc = .ok (.ifCond .gt off, 3)) (ht : (pc : Int) + off = (tgt : Int)) (h1 : 0 < x → AW Z tgt lv st I R) (h2 : ¬ 0 < x → AW Z (pc + 3) lv st I R) : AW Z pc lv (.int x :: st) I R :=
  fun p e s m below meth c H locs ls C hR hS hv => lv_if_gt C.1 C.2.1 hd ht (fun q => h1 q p e s m below meth c H locs ls C hR hS hv) (fun q => h2 q p e s m below meth c H locs ls C hR hS hv)
theorem aw_icmp_gt {x y : Int32} {off : Int} {tgt : Nat} (hd : decode (zc Z) pc = .ok (.if_icmp .gt off, 3)) (ht : (pc : Int) + off = (tgt : Int)) (h1 : y < x → AW Z tgt lv st I R) (h2 : ¬ y < x → AW Z (pc + 3) lv st I R) : AW Z pc lv (.int y :: .int x :: st) I R :=
  fun p e s m below meth c H locs ls C hR hS hv => lv_icmp_gt C.1 C.2.1 hd ht (fun q => h1 q p e s m below meth c H locs ls C hR hS hv) (fun q => h2 q p e s m below meth c H locs ls C hR hS hv)
theorem aw_if_le {x : Int32} {off : Int} {tgt : Nat} (hd : decode (zc Z) pc = .ok (.ifCond .le off, 3)) (ht : (pc : Int) + off = (tgt : Int)) (h1 : x ≤ 0 → AW Z tgt lv st I R) (h2 : ¬ x ≤ 0 → AW Z (pc + 3) lv st I R) : AW Z pc lv (.int x :: st) I R :=
  fun p e s m below meth c H locs ls C hR hS hv => lv_if_le C.1 C.2.1 hd ht (fun q => h1 q p e s m below meth c H locs ls C hR hS hv) (fun q => h2 q p e s m below meth c H locs ls C hR hS hv)
theorem aw_icmp_le {x y : Int32} {off : Int} {tgt : Nat} (hd : decode (zc Z) pc = .ok (.if_icmp .le off, 3)) (ht : (pc : Int) + off = (tgt : Int)) (h1 : x ≤ y → AW Z tgt lv st I R) (h2 : ¬ x ≤ y → AW Z (pc + 3) lv st I R) : AW Z pc lv (.int y :: .int x :: st) I R :=
  fun p e s m below meth c H locs ls C hR hS hv => lv_icmp_le C.1 C.2.1 hd ht (fun q => h1 q p e s m below meth c H locs ls C hR hS hv) (fun q => h2 q p e s m below meth c H locs ls C hR hS hv)
theorem aw_goto {off : Int} {tgt : Nat} (hd : decode (zc Z) pc = .ok (.goto off, 3)) (ht : (pc : Int) + off = (tgt : Int)) (h : AW Z tgt lv st I R) : AW Z pc lv st I R :=
  fun p e s m below meth c H locs ls C hR hS hv => lv_goto C.1 C.2.1 hd ht (h p e s m below meth c H locs ls C hR hS hv)
theorem aw_lcmp {x y : Int64} (hd : decode (zc Z) pc = .ok (.lcmp, 1)) (h : AW Z (pc + 1) lv (.int (lg_cmp x y) :: st) I R) : AW Z pc lv (.long y :: .long x :: st) I R :=
  fun p e s m below meth c H locs ls C hR hS hv => W.lcmp C.1 C.2.1 hd (h p e s m below meth c H locs ls C hR hS hv)
theorem aw_null (hd : decode (zc Z) pc = .ok (.aconst_null, 1)) (h : AW Z (pc + 1) lv (.null :: st) I R) : AW Z pc lv st I R :=
  fun p e s m below meth c H locs ls C hR hS hv => lv_null C.1 C.2.1 hd (h p e s m below meth c H locs ls C hR hS hv)
theorem aw_ifnull {x : Nat} {off : Int} (hd : decode (zc Z) pc = .ok (.ifnull off, 3)) (h : AW Z (pc + 3) lv st I R) : AW Z pc lv (.ref x :: st) I R :=
  fun p e s m below meth c H locs ls C hR hS hv => lv_ifnull C.1 C.2.1 hd (h p e s m below meth c H locs ls C hR hS hv)
theorem aw_ifnullN {off : Int} {tgt : Nat} (hd : decode (zc Z) pc = .ok (.ifnull off, 3)) (ht : (pc : Int) + off = (tgt : Int)) (h : AW Z tgt lv st I R) : AW Z pc lv (.null :: st) I R :=
  fun p e s m below meth c H locs ls C hR hS hv => lv_ifnullN C.1 C.2.1 hd ht (h p e s m below meth c H locs ls C hR hS hv)
theorem aw_ifnonnull {x : Nat} {off : Int} {tgt : Nat} (hd : decode (zc Z) pc = .ok (.ifnonnull off, 3)) (ht : (pc : Int) + off = (tgt : Int)) (h : AW Z tgt lv st I R) : AW Z pc lv (.ref x :: st) I R :=
  fun p e s m below meth c H locs ls C hR hS hv => lv_ifnonnull C.1 C.2.1 hd ht (h p e s m below meth c H locs ls C hR hS hv)
theorem aw_ifnonnullN {off : Int} (hd : decode (zc Z) pc = .ok (.ifnonnull off, 3)) (h : AW Z (pc + 3) lv st I R) : AW Z pc lv (.null :: st) I R :=
  fun p e s m below meth c H locs ls C hR hS hv => lv_ifnonnullN C.1 C.2.1 hd (h p e s m below meth c H locs ls C hR hS hv)
theorem aw_tableOut {dflt lo hi : Int} {offs : Array Int} {len : Nat} {x : Int32} {tgt : Nat} (hd : decode (zc Z) pc = .ok (.tableswitch dflt lo hi offs, len)) (hx : x.toInt < lo ∨ hi < x.toInt) (ht : (pc : Int) + dflt = (tgt : Int)) (h : AW Z tgt lv st I R) : AW Z pc lv (.int x :: st) I R :=
  fun p e s m below meth c H locs ls C hR hS hv => lv_tableOut C.1 C.2.1 hd hx ht (h p e s m below meth c H locs ls C hR hS hv)
theorem aw_tableIn {dflt lo hi : Int} {offs : Array Int} {len : Nat} {x : Int32} {off : Int} {tgt : Nat} (hd : decode (zc Z) pc = .ok (.tableswitch dflt lo hi offs, len)) (h1 : ¬ x.toInt < lo) (h2 : ¬ hi < x.toInt) (ho : offs[(x.toInt - lo).toNat]? = some off) (ht : (pc : Int) + off = (tgt : Int)) (h : AW Z tgt lv st I R) : AW Z pc lv (.int x :: st) I R :=
  fun p e s m below meth c H locs ls C hR hS hv => lv_tableIn C.1 C.2.1 hd h1 h2 ho ht (h p e s m below meth c H locs ls C hR hS hv)
/-! the heap -/
/-- a reference is good: its cell is there, and of the kind -/
def qok (R : qR) (a kd : Nat) : Prop := a < R.2.2.1 ∧ (R.2.1 a).1 = kd
/-- the references of the picture are good -/
def qWT (R : qR) : Prop := ∀ a j r, a < R.2.2.1 → R.1 a j = some r → qok R r (qfk (R.2.1 a).1 j)
theorem qWT.get (h : qWT R) {a j r kd kr : Nat} (ha : qok R a kd) (hp : R.1 a j = some r) (hk : qfk kd j = kr) : qok R r kr := by
  have := h a j r ha.1 hp
  rw [ha.2, hk] at this
  exact this
theorem qcell_o {G : qG} {a ci : Nat} (h : (R.2.1 a).1 = ci) (hc : ci < 9) : qcell G I R a = .inr (ci, qflds ci (I a) (fun j => qrf G.1 (R.1 a j))) := by
  unfold qcell
  rw [h]
  match ci, hc with
  | 0, _ => rfl
  | 1, _ => rfl
  | 2, _ => rfl
  | 3, _ => rfl
  | 4, _ => rfl
  | 5, _ => rfl
  | 6, _ => rfl
  | 7, _ => rfl
  | 8, _ => rfl
theorem qcell_i {G : qG} {a : Nat} (h : (R.2.1 a).1 = 9) : qcell G I R a = .inl (G.2.2.1, (R.2.1 a).2, .inl (I a)) := by
  simp only [qcell, h]
theorem qcell_z {G : qG} {a : Nat} (h : (R.2.1 a).1 = 10) : qcell G I R a = .inl (G.2.2.2.1, (R.2.1 a).2, .inl (I a)) := by
  simp only [qcell, h]
theorem qcell_t {G : qG} {a : Nat} (h : (R.2.1 a).1 = 11) : qcell G I R a = .inl (G.2.2.2.2, (R.2.1 a).2, .inr (.inr (.inr (.inr (fun j => qrf G.1 (R.1 a j)))))) := by
  simp only [qcell, h]
/-- writes -/
def qup (I : qI) (a j : Nat) (v : Int32) : qI := fun b => if b = a then upd (I a) j v else I b
def qpr (R : qR) (a j : Nat) (r : Option Nat) : qR := ((fun b => if b = a then va_up (R.1 a) j r else R.1 b), R.2)
def qzI (I : qI) (a : Nat) : qI := fun b => if b = a then (fun _ => 0) else I b
def qzR (R : qR) (kd len : Nat) : qR := ((fun b => if b = R.2.2.1 then (fun _ => none) else R.1 b), (fun b => if b = R.2.2.1 then (kd, len) else R.2.1 b), R.2.2.1 + 1, R.2.2.2 + len)
theorem qup_self (I : qI) (a j : Nat) (v : Int32) : qup I a j v a = upd (I a) j v := if_pos rfl
theorem qup_ne (I : qI) {a b : Nat} (j : Nat) (v : Int32) (h : b ≠ a) : qup I a j v b = I b := if_neg h
theorem qcell_up {G : qG} {a b j : Nat} {v : Int32} (h : b ≠ a) : qcell G (qup I a j v) R b = qcell G I R b := by
  unfold qcell
  rw [qup_ne I j v h]
theorem qcell_pr {G : qG} {a b j : Nat} {r : Option Nat} (h : b ≠ a) : qcell G I (qpr R a j r) b = qcell G I R b := by
  unfold qcell qpr
  simp only [if_neg h]
theorem qcell_z0 {G : qG} {b kd len : Nat} (h : b < R.2.2.1) : qcell G (qzI I R.2.2.1) (qzR R kd len) b = qcell G I R b := by
  unfold qcell qzI qzR
  simp only [if_neg (Nat.ne_of_lt h)]
/-- a field by its entry of the constant pool -/
def qFL (own : String) (index ci j : Nat) : Prop := ∃ (C : String) (T : u_T) (N : Nat) (ty : Nat → FieldType), vwCl[ci]? = some (C, T, N) ∧ j < N ∧ Cond.fieldLink own index (T j).1 (T j).2.1 (T j).2.2.1 ∈ wW ∧ (∀ w ∈ u_ws C T N, w ∈ wW) ∧ (∀ k, k < N → parseFieldDescriptor (T k).2.2.1 = some (ty k)) ∧ (∀ a, a < N → ∀ b, b < N → a ≠ b → (T a).2.1 ≠ (T b).2.1)
theorem aw_geti {own : String} {index ci j a : Nat} (hf : qFL own index ci j) (hc : ci < 9) (hg : ∀ i p, (qflds ci i p)[j]? = some (.int (i j))) (ha : qok R a ci) (ho : (zM Z).1.cls = own) (hd : decode (zc Z) pc = .ok (.getfield index, 3)) (h : AW Z (pc + 3) lv (.int (I a j) :: st) I R) : AW Z pc lv (.ref ((zG Z).1 + a) :: st) I R := by
  intro p e s m below meth c H locs ls C hR hS hv
  obtain ⟨C0, T, N, ty, h1, h2, h3, h4, h5, h6⟩ := hf
  subst ho
  have he := qw_at (zG Z) I R ha.1
  rw [qcell_o ha.2 hc] at he
  exact va_get C.1 C.2.1 C.2.2.2.2.2.1 h4 C.2.2.2.2.1 C.2.2.2.2.2.2.2.2.1.1 hR.1 a he h1 j h2 (C.2.2.2.2.2.1 _ h3) (fun _ q => q) (hg _ _) hd (h p e s m below meth c H locs ls C hR hS hv)
theorem aw_getr {own : String} {index ci j a r : Nat} (hf : qFL own index ci j) (hc : ci < 9) (hg : ∀ i p, (qflds ci i p)[j]? = some (va_rf (p j))) (ha : qok R a ci) (hr : R.1 a j = some r) (ho : (zM Z).1.cls = own) (hd : decode (zc Z) pc = .ok (.getfield index, 3)) (h : AW Z (pc + 3) lv (.ref ((zG Z).1 + r) :: st) I R) : AW Z pc lv (.ref ((zG Z).1 + a) :: st) I R := by
  intro p e s m below meth c H locs ls C hR hS hv
  obtain ⟨C0, T, N, ty, h1, h2, h3, h4, h5, h6⟩ := hf
  subst ho
  have he := qw_at (zG Z) I R ha.1
  rw [qcell_o ha.2 hc] at he
  have hq := hg (I a) (fun j => qrf (zG Z).1 (R.1 a j))
  simp only [hr, qrf, Option.map_some, va_rf] at hq
  exact va_get C.1 C.2.1 C.2.2.2.2.2.1 h4 C.2.2.2.2.1 C.2.2.2.2.2.2.2.2.1.1 hR.1 a he h1 j h2 (C.2.2.2.2.2.1 _ h3) (fun _ q => q) hq hd (h p e s m below meth c H locs ls C hR hS hv)
theorem aw_puti {own : String} {index ci j a : Nat} {v : Int32} (hf : qFL own index ci j) (hc : ci < 9) (hg : ∀ i p, qflds ci (upd i j v) p = (qflds ci i p).set j (.int v)) (hl : ∀ i p, j < (qflds ci i p).length) (hfin : ∀ C T N, vwCl[ci]? = some (C, T, N) → (T j).2.2.2 = false ∧ parseFieldDescriptor (T j).2.2.1 = some .int) (ha : qok R a ci) (ho : (zM Z).1.cls = own) (hd : decode (zc Z) pc = .ok (.putfield index, 3)) (h : AW Z (pc + 3) lv st (qup I a j v) R) : AW Z pc lv (.int v :: .ref ((zG Z).1 + a) :: st) I R := by
  intro p e s m below meth c H locs ls C hR hS hv
  obtain ⟨C0, T, N, ty, h1, h2, h3, h4, h5, h6⟩ := hf
  subst ho
  have he := qw_at (zG Z) I R ha.1
  rw [qcell_o ha.2 hc] at he
  refine va_put C.1 C.2.1 C.2.2.2.2.2.1 h4 ty h5 h6 C.2.2.2.2.1 C.2.2.2.2.2.2.2.2.1.1 hR.1 (qD _ I R) hS a he h1 j h2 (C.2.2.2.2.2.1 _ h3) (fun _ q => q) (hfin _ _ _ h1).1 (hfin _ _ _ h1).2 rfl rfl (hl _ _) hd (fun H1 locs1 hP1 hD1 hS1 => h p e s m below meth c H1 locs1 ls C ⟨?_, hR.2⟩ hS1 hv)
  rw [← hg, ← qup_self I a j v, ← qcell_o (G := zG Z) (I := qup I a j v) ha.2 hc, qw_set (zG Z) I (qup I a j v) R R rfl (fun b hb => qcell_up hb)] at hP1
  exact hP1
end AWR
end
section
section AWH
variable {Z : qZ} {pc : Nat} {lv : List (Nat × Value)} {st : List Value} {I : qI} {R : qR}
theorem qsize {p : Program} {e : Env} {s : State} {m : MethodId} {below : List Frame} {meth : Method} {c : Code} {H : Heap} {locs : List Loc} {Q : State → Prop} {g : JFrame} {w : Nat} (C : qCX Z p s m meth c) (hR : qRP (zG Z) I R H ∧ zN Z ≤ R.2.2.1 ∧ zS Z ≤ R.2.2.2) (hS : va_S (qA (zG Z)) s.heap H locs)
    (h : H.size = (zG Z).1 + R.2.2.1 → W p (zl Z) e (zR Z) s m (zA Z).toArray below meth c H locs (R.2.2.1 - zN Z) w Q g) : W p (zl Z) e (zR Z) s m (zA Z).toArray below meth c H locs (R.2.2.1 - zN Z) w Q g := by
  intro T hT X
  have h1 := X.heapSize
  rw [hT] at h1
  have h2 := C.2.2.2.2.2.2.2.2.2.1
  have h3 := hS.1
  have h4 := hR.2.1
  have h5 : (zG Z).1 + R.2.2.1 ≤ H.size := by
    by_cases hn : R.2.2.1 = 0
    · omega
    · have := (hR.1 (R.2.2.1 - 1) _ (qw_at (zG Z) I R (by omega))).lt
      have h6 : (zG Z).1 + (R.2.2.1 - 1) < H.size := this
      omega
  exact h (by omega) T hT X
theorem aw_iald {a : Nat} {i : Int32} (ha : qok R a 9) (hi : vp_in i (R.2.1 a).2) (hd : decode (zc Z) pc = .ok (.iaload, 1)) (h : AW Z (pc + 1) lv (.int (I a i.toNatClampNeg) :: st) I R) : AW Z pc lv (.int i :: .ref ((zG Z).1 + a) :: st) I R := by
  intro p e s m below meth c H locs ls C hR hS hv
  have he := qw_at (zG Z) I R ha.1
  rw [qcell_i ha.2] at he
  exact va_iald C.1 C.2.1 C.2.2.2.2.2.2.2.2.1.1 hR.1 a 0 he rfl hi hd (h p e s m below meth c H locs ls C hR hS hv)
theorem aw_zald {a : Nat} {i : Int32} (ha : qok R a 10) (hi : vp_in i (R.2.1 a).2) (hd : decode (zc Z) pc = .ok (.baload, 1)) (h : AW Z (pc + 1) lv (.int (I a i.toNatClampNeg) :: st) I R) : AW Z pc lv (.int i :: .ref ((zG Z).1 + a) :: st) I R := by
  intro p e s m below meth c H locs ls C hR hS hv
  have he := qw_at (zG Z) I R ha.1
  rw [qcell_z ha.2] at he
  exact va_zald C.1 C.2.1 C.2.2.2.2.2.2.2.2.1.1 hR.1 a 1 he rfl hi hd (h p e s m below meth c H locs ls C hR hS hv)
theorem aw_aald {a r : Nat} {i : Int32} (ha : qok R a 11) (hi : vp_in i (R.2.1 a).2) (hr : R.1 a i.toNatClampNeg = some r) (hd : decode (zc Z) pc = .ok (.aaload, 1)) (h : AW Z (pc + 1) lv (.ref ((zG Z).1 + r) :: st) I R) : AW Z pc lv (.int i :: .ref ((zG Z).1 + a) :: st) I R := by
  intro p e s m below meth c H locs ls C hR hS hv
  have he := qw_at (zG Z) I R ha.1
  rw [qcell_t ha.2] at he
  refine va_aldq C.1 C.2.1 C.2.2.2.2.2.2.2.2.1.1 hR.1 a 2 he rfl hi hd ?_
  rw [show va_rf (qrf (zG Z).1 (R.1 a i.toNatClampNeg)) = .ref ((zG Z).1 + r) by rw [hr]; rfl]
  exact h p e s m below meth c H locs ls C hR hS hv
theorem aw_alen {a kd : Nat} {v : Int32} (ha : qok R a kd) (hk : kd = 9 ∨ kd = 11) (hl : Int32.ofNat (R.2.1 a).2 = v) (hd : decode (zc Z) pc = .ok (.arraylength, 1)) (h : AW Z (pc + 1) lv (.int v :: st) I R) : AW Z pc lv (.ref ((zG Z).1 + a) :: st) I R := by
  intro p e s m below meth c H locs ls C hR hS hv
  have he := qw_at (zG Z) I R ha.1
  rcases hk with rfl | rfl
  · rw [qcell_i ha.2] at he
    exact va_alen C.1 C.2.1 C.2.2.2.2.2.2.2.2.1.1 hR.1 a 0 he rfl hl hd (h p e s m below meth c H locs ls C hR hS hv)
  · rw [qcell_t ha.2] at he
    exact va_alen C.1 C.2.1 C.2.2.2.2.2.2.2.2.1.1 hR.1 a 2 he rfl hl hd (h p e s m below meth c H locs ls C hR hS hv)
theorem aw_iast {a : Nat} {i x : Int32} (ha : qok R a 9) (hi : vp_in i (R.2.1 a).2) (hd : decode (zc Z) pc = .ok (.iastore, 1)) (h : AW Z (pc + 1) lv st (qup I a i.toNatClampNeg x) R) : AW Z pc lv (.int x :: .int i :: .ref ((zG Z).1 + a) :: st) I R := by
  intro p e s m below meth c H locs ls C hR hS hv
  have he := qw_at (zG Z) I R ha.1
  rw [qcell_i ha.2] at he
  refine va_iast C.1 C.2.1 C.2.2.2.2.2.2.2.2.1.1 hR.1 (qD _ I R) hS a 0 he rfl hi hd (fun H1 locs1 hP1 hD1 hS1 => h p e s m below meth c H1 locs1 ls C ⟨?_, hR.2⟩ hS1 hv)
  rw [← qup_self I a i.toNatClampNeg x, ← qcell_i (G := zG Z) (I := qup I a i.toNatClampNeg x) ha.2, qw_set (zG Z) I (qup I a i.toNatClampNeg x) R R rfl (fun b hb => qcell_up hb)] at hP1
  exact hP1
theorem aw_zast {a : Nat} {i x : Int32} (ha : qok R a 10) (hi : vp_in i (R.2.1 a).2) (hd : decode (zc Z) pc = .ok (.bastore, 1)) (h : AW Z (pc + 1) lv st (qup I a i.toNatClampNeg (vp_nar .boolean x)) R) : AW Z pc lv (.int x :: .int i :: .ref ((zG Z).1 + a) :: st) I R := by
  intro p e s m below meth c H locs ls C hR hS hv
  have he := qw_at (zG Z) I R ha.1
  rw [qcell_z ha.2] at he
  refine va_zast C.1 C.2.1 C.2.2.2.2.2.2.2.2.1.1 hR.1 (qD _ I R) hS a 1 he rfl hi hd (fun H1 locs1 hP1 hD1 hS1 => h p e s m below meth c H1 locs1 ls C ⟨?_, hR.2⟩ hS1 hv)
  rw [← qup_self I a i.toNatClampNeg (vp_nar .boolean x), ← qcell_z (G := zG Z) (I := qup I a i.toNatClampNeg (vp_nar .boolean x)) ha.2, qw_set (zG Z) I (qup I a i.toNatClampNeg (vp_nar .boolean x)) R R rfl (fun b hb => qcell_up hb)] at hP1
  exact hP1
theorem qpr_self (R : qR) (a j : Nat) (r : Option Nat) : (qpr R a j r).1 a = va_up (R.1 a) j r := if_pos rfl
theorem qrf_up (b : Nat) (f : Nat → Option Nat) (j r : Nat) : (fun x => qrf b (va_up f j (some r) x)) = va_up (fun x => qrf b (f x)) j (some (b + r)) := by
  funext x
  unfold va_up
  split <;> rfl
theorem aw_aast {a r : Nat} {i : Int32} (ha : qok R a 11) (hi : vp_in i (R.2.1 a).2) (hr : qok R r 5) (hd : decode (zc Z) pc = .ok (.aastore, 1)) (h : AW Z (pc + 1) lv st I (qpr R a i.toNatClampNeg (some r))) : AW Z pc lv (.ref ((zG Z).1 + r) :: .int i :: .ref ((zG Z).1 + a) :: st) I R := by
  intro p e s m below meth c H locs ls C hR hS hv
  have he := qw_at (zG Z) I R ha.1
  have he2 := qw_at (zG Z) I R hr.1
  rw [qcell_t ha.2] at he
  rw [qcell_o hr.2 (by decide)] at he2
  refine va_astq (r := (RX5, TX5, 6)) C.1 C.2.1 C.2.2.2.2.2.2.2.2.1.1 hR.1 (qD _ I R) hS a 2 r 5 he rfl he2 rfl hi hd (fun H1 locs1 hP1 hD1 hS1 => h p e s m below meth c H1 locs1 ls C ⟨?_, hR.2⟩ hS1 hv)
  rw [← qrf_up] at hP1
  have hc : qcell (zG Z) I (qpr R a i.toNatClampNeg (some r)) a = .inl ((zG Z).2.2.2.2, (R.2.1 a).2, .inr (.inr (.inr (.inr (fun x => qrf (zG Z).1 (va_up (R.1 a) i.toNatClampNeg (some r) x)))))) := by
    rw [qcell_t (R := qpr R a i.toNatClampNeg (some r)) ha.2, qpr_self]
    rfl
  rw [← hc, qw_set (zG Z) I I R (qpr R a i.toNatClampNeg (some r)) rfl (fun b hb => qcell_pr hb)] at hP1
  exact hP1
/-- a reference into a field -/
def qTY (ci j : Nat) (fin : Bool) : Prop := ∀ C T N, vwCl[ci]? = some (C, T, N) → (T j).2.2.2 = fin ∧ (T j).1 = C ∧ ∃ ty, parseFieldDescriptor (T j).2.2.1 = some ty ∧ ∀ x, narrow ty (.ref x) = .ref x ∧ fits ty (.ref x) = true
theorem aw_putr {own : String} {index ci j a r : Nat} (hf : qFL own index ci j) (hc : ci < 9) (hg : ∀ i p, qflds ci i (va_up p j (some ((zG Z).1 + r))) = (qflds ci i p).set j (.ref ((zG Z).1 + r))) (hl : ∀ i p, j < (qflds ci i p).length) (hfin : qTY ci j false) (ha : qok R a ci) (ho : (zM Z).1.cls = own) (hd : decode (zc Z) pc = .ok (.putfield index, 3)) (h : AW Z (pc + 3) lv st I (qpr R a j (some r))) : AW Z pc lv (.ref ((zG Z).1 + r) :: .ref ((zG Z).1 + a) :: st) I R := by
  intro p e s m below meth c H locs ls C hR hS hv
  obtain ⟨C0, T, N, ty, h1, h2, h3, h4, h5, h6⟩ := hf
  subst ho
  have he := qw_at (zG Z) I R ha.1
  rw [qcell_o ha.2 hc] at he
  obtain ⟨f1, f2, ty1, f3, f4⟩ := hfin _ _ _ h1
  refine va_put C.1 C.2.1 C.2.2.2.2.2.1 h4 ty h5 h6 C.2.2.2.2.1 C.2.2.2.2.2.2.2.2.1.1 hR.1 (qD _ I R) hS a he h1 j h2 (C.2.2.2.2.2.1 _ h3) (fun _ q => q) f1 f3 (f4 _).1 (f4 _).2 (hl _ _) hd (fun H1 locs1 hP1 hD1 hS1 => h p e s m below meth c H1 locs1 ls C ⟨?_, hR.2⟩ hS1 hv)
  have hcell : qcell (zG Z) I (qpr R a j (some r)) a = .inr (ci, qflds ci (I a) (va_up (fun x => qrf (zG Z).1 (R.1 a x)) j (some ((zG Z).1 + r)))) := by
    rw [qcell_o (R := qpr R a j (some r)) ha.2 hc, qpr_self, qrf_up]
  rw [← hg, ← hcell, qw_set (zG Z) I I R (qpr R a j (some r)) rfl (fun b hb => qcell_pr hb)] at hP1
  exact hP1
theorem aw_putF {own : String} {index ci j a r : Nat} (hf : qFL own index ci j) (hc : ci < 9) (hg : ∀ i p, qflds ci i (va_up p j (some ((zG Z).1 + r))) = (qflds ci i p).set j (.ref ((zG Z).1 + r))) (hl : ∀ i p, j < (qflds ci i p).length) (hfin : qTY ci j true) (hown : ∀ C T N, vwCl[ci]? = some (C, T, N) → C = own) (hin : (zM Z).1.name = "<init>") (ha : qok R a ci) (ho : (zM Z).1.cls = own) (hd : decode (zc Z) pc = .ok (.putfield index, 3)) (h : AW Z (pc + 3) lv st I (qpr R a j (some r))) : AW Z pc lv (.ref ((zG Z).1 + r) :: .ref ((zG Z).1 + a) :: st) I R := by
  intro p e s m below meth c H locs ls C hR hS hv
  obtain ⟨C0, T, N, ty, h1, h2, h3, h4, h5, h6⟩ := hf
  subst ho
  have he := qw_at (zG Z) I R ha.1
  rw [qcell_o ha.2 hc] at he
  obtain ⟨f1, f2, ty1, f3, f4⟩ := hfin _ _ _ h1
  refine va_putF C.1 C.2.1 C.2.2.2.2.2.1 h4 ty h5 h6 C.2.2.2.2.1 C.2.2.2.2.2.2.2.2.1.1 hR.1 (qD _ I R) hS a he h1 j h2 (C.2.2.2.2.2.1 _ h3) (fun _ q => q) f1 (C.2.2.2.2.2.2.2.1.trans hin) (f2.trans (hown _ _ _ h1)) f3 (f4 _).1 (f4 _).2 (hl _ _) hd (fun H1 locs1 hP1 hD1 hS1 => h p e s m below meth c H1 locs1 ls C ⟨?_, hR.2⟩ hS1 hv)
  have hcell : qcell (zG Z) I (qpr R a j (some r)) a = .inr (ci, qflds ci (I a) (va_up (fun x => qrf (zG Z).1 (R.1 a x)) j (some ((zG Z).1 + r)))) := by
    rw [qcell_o (R := qpr R a j (some r)) ha.2 hc, qpr_self, qrf_up]
  rw [← hg, ← hcell, qw_set (zG Z) I I R (qpr R a j (some r)) rfl (fun b hb => qcell_pr hb)] at hP1
  exact hP1
/-- the heap behind a cell that was pushed -/
theorem qpush {G : qG} {H H1 : Heap} {kd len : Nat} (hP : qRP G I R H) (hz : H.size = G.1 + R.2.2.1) (o1 : ∀ q, q < H.size → H1[q]? = H[q]?) (hc : va_at G.2.1 vwCl (G.1 + R.2.2.1, qcell G (qzI I R.2.2.1) (qzR R kd len) R.2.2.1) H1) : qRP G (qzI I R.2.2.1) (qzR R kd len) H1 := by
  unfold qRP
  rw [← qw_push G I (qzI I R.2.2.1) R (qzR R kd len) rfl (fun j hj => qcell_z0 hj)]
  refine (va_P.kept hP (fun k q hq => ?_)).app (fun k q hq => ?_)
  · obtain ⟨hl, rfl⟩ := qw_of hq
    exact o1 _ (by show G.1 + k < H.size; omega)
  · have hz : k < 1 := (List.getElem?_eq_some_iff.mp hq).1
    rw [show k = 0 by omega] at hq
    cases hq
    exact hc
theorem qS_push {A : Nat → Prop} {H0 H H1 : Heap} {locs : List Loc} (hS : va_S A H0 H locs) (z : H1.size = H.size + 1) (o1 : ∀ q, q < H.size → H1[q]? = H[q]?) : va_S A H0 H1 locs :=
  ⟨Nat.le_trans hS.1 (by omega), fun x h1 h2 => (o1 x (Nat.lt_of_lt_of_le h1 hS.1)).trans (hS.2.1 x h1 h2), hS.2.2⟩
theorem aw_new {own C : String} {T : u_T} {N ci index : Nat} (ty : Nat → FieldType) (hcl : vwCl[ci]? = some (C, T, N)) (hc : ci < 9) (hin : ∀ w ∈ u_ws C T N, w ∈ wW) (hty : ∀ k, k < N → parseFieldDescriptor (T k).2.2.1 = some (ty k)) (h1 : Cond.classLink own index C ∈ wW) (h2 : Cond.instantiable C N ∈ wW) (h3 : Cond.initialized C ∈ wW) (hfs : ∀ j, j < N → defaultValue (ty j) = vp_V (qflds ci (fun _ => 0) (fun _ => none)) j)
    (hr1 : R.2.2.1 + 1 - zN Z ≤ (zR Z).cells) (hr2 : R.2.2.2 + N - zS Z ≤ (zR Z).slots) (ho : (zM Z).1.cls = own) (hd : decode (zc Z) pc = .ok (.new index, 3)) (h : AW Z (pc + 3) lv (.ref ((zG Z).1 + R.2.2.1) :: st) (qzI I R.2.2.1) (qzR R ci N)) : AW Z pc lv st I R := by
  intro p e s m below meth c H locs ls C0 hR hS hv
  subst ho
  refine qsize C0 hR hS (fun hz => ?_)
  have hKn := C0.2.2.2.2.2.2.2.2.1.1.1 ci _ hcl
  have e1 : R.2.2.1 - zN Z + 1 = (qzR R ci N).2.2.1 - zN Z := by show _ = R.2.2.1 + 1 - zN Z; have := hR.2.1; omega
  have e2 : R.2.2.2 - zS Z + N = (qzR R ci N).2.2.2 - zS Z := by show _ = R.2.2.2 + N - zS Z; have := hR.2.2; omega
  refine W.newcK C0.1 C0.2.1 C0.2.2.2.2.1 (C0.2.2.2.2.2.1 _ h1) (C0.2.2.2.2.2.1 _ h2) (C0.2.2.2.2.2.1 _ h3) rfl hd (by rw [e1]; exact hr1) (by rw [e2]; exact hr2) hKn.2.1 hz fun H1 kC hkC g1 z1 o1 => ?_
  rw [e1, e2]
  refine h p e s m below meth c H1 locs ls C0 ⟨qpush hR.1 hz (fun q hq => o1 q (by omega)) ?_, ?_, ?_⟩ (qS_push hS (by omega) (fun q hq => o1 q (by omega))) hv
  · rw [qcell_o (ci := ci) (by simp [qzR]) hc]
    refine ⟨_, hcl, (u_born ty C0.2.2.2.2.2.1 hin hKn hkC g1 hty).to (fun j hj => ?_)⟩
    rw [hfs j hj]
    simp [qzI, qzR, qrf]
  · show zN Z ≤ R.2.2.1 + 1; have := hR.2.1; omega
  · show zS Z ≤ R.2.2.2 + N; have := hR.2.2; omega
theorem aw_newi {x : Int32} {N : Nat} (hw : Cond.arrayClass .int ∈ wW) (h0 : ¬ x < 0) (hN : x.toNatClampNeg = N) (hb : N ≤ 100000000) (hr1 : R.2.2.1 + 1 - zN Z ≤ (zR Z).cells) (hr2 : R.2.2.2 + N - zS Z ≤ (zR Z).slots) (hd : decode (zc Z) pc = .ok (.newarray .int, 2)) (h : AW Z (pc + 2) lv (.ref ((zG Z).1 + R.2.2.1) :: st) (qzI I R.2.2.1) (qzR R 9 N)) : AW Z pc lv (.int x :: st) I R := by
  intro p e s m below meth c H locs ls C0 hR hS hv
  refine qsize C0 hR hS (fun hz => ?_)
  have e1 : R.2.2.1 - zN Z + 1 = (qzR R 9 N).2.2.1 - zN Z := by show _ = R.2.2.1 + 1 - zN Z; have := hR.2.1; omega
  have e2 : R.2.2.2 - zS Z + N = (qzR R 9 N).2.2.2 - zS Z := by show _ = R.2.2.2 + N - zS Z; have := hR.2.2; omega
  refine va_newaK C0.1 C0.2.1 (atype := .int) (C0.2.2.2.2.2.1 _ hw) rfl hd rfl h0 hN (by show N * 4 ≤ _; omega) (by rw [e1]; exact hr1) (by rw [e2]; exact hr2) hz fun H1 cA g1 z1 o1 hAr hNm => ?_
  rw [e1, e2]
  have hcA : cA = (zG Z).2.2.1 := Option.some.inj (hNm.symm.trans (C0.2.2.2.2.2.2.2.2.1.1.2 0 _ rfl).2)
  subst hcA
  refine h p e s m below meth c H1 locs ls C0 ⟨qpush hR.1 hz (fun q hq => o1 q (by omega)) ?_, ?_, ?_⟩ (qS_push hS (by omega) (fun q hq => o1 q (by omega))) hv
  · rw [qcell_i (by simp [qzR])]
    show H1[(zG Z).1 + R.2.2.1]? = _
    rw [g1]
    simp [qzI, qzR, vp_cell_i, defaultValue, newarray.typeOf]
  · show zN Z ≤ R.2.2.1 + 1; have := hR.2.1; omega
  · show zS Z ≤ R.2.2.2 + N; have := hR.2.2; omega
theorem aw_newz {x : Int32} {N : Nat} (hw : Cond.arrayClass .boolean ∈ wW) (h0 : ¬ x < 0) (hN : x.toNatClampNeg = N) (hb : N ≤ 100000000) (hr1 : R.2.2.1 + 1 - zN Z ≤ (zR Z).cells) (hr2 : R.2.2.2 + N - zS Z ≤ (zR Z).slots) (hd : decode (zc Z) pc = .ok (.newarray .boolean, 2)) (h : AW Z (pc + 2) lv (.ref ((zG Z).1 + R.2.2.1) :: st) (qzI I R.2.2.1) (qzR R 10 N)) : AW Z pc lv (.int x :: st) I R := by
  intro p e s m below meth c H locs ls C0 hR hS hv
  refine qsize C0 hR hS (fun hz => ?_)
  have e1 : R.2.2.1 - zN Z + 1 = (qzR R 10 N).2.2.1 - zN Z := by show _ = R.2.2.1 + 1 - zN Z; have := hR.2.1; omega
  have e2 : R.2.2.2 - zS Z + N = (qzR R 10 N).2.2.2 - zS Z := by show _ = R.2.2.2 + N - zS Z; have := hR.2.2; omega
  refine va_newaK C0.1 C0.2.1 (atype := .boolean) (C0.2.2.2.2.2.1 _ hw) rfl hd rfl h0 hN (by show N * 1 ≤ _; omega) (by rw [e1]; exact hr1) (by rw [e2]; exact hr2) hz fun H1 cA g1 z1 o1 hAr hNm => ?_
  rw [e1, e2]
  have hcA : cA = (zG Z).2.2.2.1 := Option.some.inj (hNm.symm.trans (C0.2.2.2.2.2.2.2.2.1.1.2 1 _ rfl).2)
  subst hcA
  refine h p e s m below meth c H1 locs ls C0 ⟨qpush hR.1 hz (fun q hq => o1 q (by omega)) ?_, ?_, ?_⟩ (qS_push hS (by omega) (fun q hq => o1 q (by omega))) hv
  · rw [qcell_z (by simp [qzR])]
    show H1[(zG Z).1 + R.2.2.1]? = _
    rw [g1]
    simp [qzI, qzR, vp_cell_i, defaultValue, newarray.typeOf]
  · show zN Z ≤ R.2.2.1 + 1; have := hR.2.1; omega
  · show zS Z ≤ R.2.2.2 + N; have := hR.2.2; omega
theorem aw_newt {own : String} {index : Nat} {x : Int32} {N : Nat} (hw : Cond.classLink own index RX5 ∈ wW) (h0 : ¬ x < 0) (hN : x.toNatClampNeg = N) (hb : N ≤ 100000000) (hr1 : R.2.2.1 + 1 - zN Z ≤ (zR Z).cells) (hr2 : R.2.2.2 + N - zS Z ≤ (zR Z).slots) (ho : (zM Z).1.cls = own) (hd : decode (zc Z) pc = .ok (.anewarray index, 3)) (h : AW Z (pc + 3) lv (.ref ((zG Z).1 + R.2.2.1) :: st) (qzI I R.2.2.1) (qzR R 11 N)) : AW Z pc lv (.int x :: st) I R := by
  intro p e s m below meth c H locs ls C0 hR hS hv
  subst ho
  refine qsize C0 hR hS (fun hz => ?_)
  have e1 : R.2.2.1 - zN Z + 1 = (qzR R 11 N).2.2.1 - zN Z := by show _ = R.2.2.1 + 1 - zN Z; have := hR.2.1; omega
  have e2 : R.2.2.2 - zS Z + N = (qzR R 11 N).2.2.2 - zS Z := by show _ = R.2.2.2 + N - zS Z; have := hR.2.2; omega
  refine W.anew C0.1 C0.2.1 C0.2.2.2.2.1 (C0.2.2.2.2.2.1 _ hw) (va_AO.use C0.2.2.2.2.2.2.2.2.1.2.2) rfl hd rfl h0 (by rw [hN]; omega) (by rw [e1]; exact hr1) (by rw [hN, e2]; exact hr2) fun cA kA comp f1 f2 f3 f4 => ?_
  generalize hH1 : H.push ({ cls := cA, slots := Array.replicate x.toNatClampNeg .null, vm := .none } : Cell) = H1
  have z1 : H1.size = H.size + 1 := by rw [← hH1, Array.size_push]
  have g1 : H1[H.size]? = some (arrV cA x.toNatClampNeg (fun _ => .null)) := by rw [← hH1, Array.getElem?_push_size, ← arrV_new]
  have o1 : ∀ q : Nat, q < H.size → H1[q]? = H[q]? := fun q hq => by rw [← hH1, Array.getElem?_push, if_neg (Nat.ne_of_lt hq)]
  rw [hN, e1, e2, hz]
  obtain ⟨kA2, comp2, -, -, -, q4⟩ := (C0.2.2.2.2.2.2.2.2.1.1.2 2 _ rfl).2
  have hcA : cA = (zG Z).2.2.2.2 := Option.some.inj (f1.symm.trans q4)
  subst hcA
  refine h p e s m below meth c H1 locs ls C0 ⟨qpush hR.1 hz o1 ?_, ?_, ?_⟩ (qS_push hS z1 o1) hv
  · rw [qcell_t (by simp [qzR])]
    show H1[(zG Z).1 + R.2.2.1]? = _
    rw [← hz, g1, hN]
    simp [qzR, vp_cell_q, qrf, va_rf]
  · show zN Z ≤ R.2.2.1 + 1; have := hR.2.1; omega
  · show zS Z ≤ R.2.2.2 + N; have := hR.2.2; omega
theorem aw_objInit {own : String} {index a : Nat} (h1 : Cond.methodLink own index objectInit ∈ wW) (h2 : Cond.instanceMethod objectInit ∈ wW) (h3 : Cond.code objectInit ⟨#[0xb1]⟩ 1 none ∈ wW) (ho : (zM Z).1.cls = own) (hst : (st.map fun v => v.category).sum ≤ 8) (hf : 1 ≤ (zR Z).frames) (hlo : 20 ≤ (zR Z).locals) (hd : decode (zc Z) pc = .ok (.invokespecial index, 3)) (h : AW Z (pc + 3) lv st I R) : AW Z pc lv (.ref a :: st) I R := by
  intro p e s m below meth c H locs ls C hR hS hv
  subst ho
  refine W.objInit C.1 C.2.1 C.2.2.2.2.1 (C.2.2.2.2.2.1 _ h1) (C.2.2.2.2.2.1 _ h2) (C.2.2.2.2.2.1 _ h3) rfl (by rw [C.2.2.2.1]; exact hv.1) rfl hd hf (by show 2 * 0 + _ + 12 ≤ _; omega) ?_
  exact h p e s m below meth c H locs ls C hR hS hv
end AWH
end
section
/-! CONTRACTS AND CALLS -/
def qrm (d mc ms : Nat) : Room := { frames := d, cells := mc, slots := ms, locals := 64 * d }
def qQc (G : qG) (v1 : Option Value) (I1 : qI) (R1 : qR) : Array Value → State → Outcome → State → Prop := fun _ st oc t => oc = .returned v1 ∧ qRP G I1 R1 t.heap ∧ va_F (qA G) st t
def qPc (G : qG) (As : List Value) (I : qI) (R : qR) : Array Value → State → Prop := va_Pc As (fun U => U.heap.size = G.1 + R.2.2.1 ∧ qRP G I R U.heap ∧ qK G U)
/-- THE CONTRACT of a method M, at call depth d: with arguments As and heap picture (I, R) it returns v1 and leaves (I1, R1) -/
def qMt (l : Launch) (G : qG) (M : qM) (d : Nat) (As : List Value) (I : qI) (R : qR) (v1 : Option Value) (I1 : qI) (R1 : qR) : Prop :=
  (R.2.2.1 ≤ R1.2.2.1 ∧ R.2.2.2 ≤ R1.2.2.2) ∧ Met l M.1 (qws M) (qrm d (R1.2.2.1 - R.2.2.1) (R1.2.2.2 - R.2.2.2)) (qPc G As I R) (qQc G v1 I1 R1) (R1.2.2.1 - R.2.2.1) (R1.2.2.2 - R.2.2.2) (qA G)
abbrev Zm (l : Launch) (G : qG) (M : qM) (d : Nat) (As : List Value) (R : qR) (v1 : Option Value) (I1 : qI) (R1 : qR) : qZ :=
  (l, G, M, As, (fun _ => True), qrm d (R1.2.2.1 - R.2.2.1) (R1.2.2.2 - R.2.2.2), (R.2.2.1, R.2.2.2), fun below s => MQ below (qQc G v1 I1 R1) As.toArray s (R1.2.2.1 - R.2.2.1) (R1.2.2.2 - R.2.2.2) (qA G))
theorem qblind (G : qG) (As : List Value) (I : qI) (R : qR) : FrameBlind (qPc G As I R) := by
  intro a U g mk h
  obtain ⟨h1, h2, h3, h4⟩ := h
  exact ⟨h1, h2, h3, qK.same (u := U) (U := U.calling g mk a) rfl h4⟩
theorem qMt_of {l : Launch} {G : qG} {M : qM} {d : Nat} {As : List Value} {I : qI} {R : qR} {v1 : Option Value} {I1 : qI} {R1 : qR} (hp : plainName M.1.cls = true) (hlen : (lg_sl As).length ≤ M.2.2.1) (hle : R.2.2.1 ≤ R1.2.2.1 ∧ R.2.2.2 ≤ R1.2.2.2)
    (h : AW (Zm l G M d As R v1 I1 R1) 0 (lv_args 0 As) [] I R) : qMt l G M d As I R v1 I1 R1 := by
  refine ⟨hle, Met.ofW (cc := M.2.1) (maxL := M.2.2.1) (ret := M.2.2.2) hp rfl ?_⟩
  intro p e s m args below meth c s₁ B hml hv
  obtain ⟨rfl, hsz, hP, hK⟩ := hv
  have hts := atoms_spec (ws := qws M) B.pre
  have hl := lv_entry As (n := M.2.2.1) hlen
  rw [lg_entry_eq]
  have := h p e s m below meth c s.heap [] _ ⟨B.exec, B.bytes, B.returns, hml, findClass_of_methodNamed B.named, fun w hw => hts w (List.mem_cons_of_mem _ hw), B.notSynchronized, (name_of_methodNamed B.named B.method).1, hK, hsz, trivial⟩ ⟨hP, Nat.le_refl _, Nat.le_refl _⟩ va_S.rf hl
  rw [show R.2.2.1 - zN (Zm l G M d As R v1 I1 R1) = 0 from Nat.sub_self _, show R.2.2.2 - zS (Zm l G M d As R v1 I1 R1) = 0 from Nat.sub_self _] at this
  exact this
section AWC
variable {Z : qZ} {pc : Nat} {lv : List (Nat × Value)} {st st0 rest : List Value} {I : qI} {R : qR} {v1 : Option Value} {I1 : qI} {R1 : qR} {M : qM} {d : Nat} {As : List Value}
theorem aw_run {a : Array Value} (hle : R.2.2.1 ≤ R1.2.2.1 ∧ R.2.2.2 ≤ R1.2.2.2) (hrun : ∀ (p : Program) (e : Env) (s : State) (m : MethodId) (below : List Frame) (meth : Method) (c : Code) (H : Heap) (locs : List Loc) (ls : Array Slot), qCX Z p s m meth c → H.size = (zG Z).1 + R.2.2.1 → qRP (zG Z) I R H → zN Z ≤ R.2.2.1 → zS Z ≤ R.2.2.2 → lv_has ls (zn Z) lv →
      va_Run p (zl Z) e (zR Z) s m (zA Z).toArray below meth c H locs (R.2.2.1 - zN Z) (R.2.2.2 - zS Z) (R1.2.2.1 - R.2.2.1) (R1.2.2.2 - R.2.2.2) (F0 m pc ls st0) rest (qQc (zG Z) v1 I1 R1 a) (qA (zG Z)))
    (h : AW Z (pc + 3) lv (v1.toList ++ rest) I1 R1) : AW Z pc lv st0 I R := by
  intro p e s m below meth c H locs ls C hR hS hv
  refine qsize C hR hS (fun hz => ?_)
  intro T hT X
  obtain ⟨v, st₀, t, T', L, h0, X', hL, e1, e2, ⟨hv1, hP1, hz1, hk1⟩, stp⟩ := hrun p e s m below meth c H locs ls C hz hR.1 hR.2.1 hR.2.2 hv T hT X
  have hv2 : v = v1 := by injection hv1
  subst hv2
  rw [h0] at hz1 hk1
  have a1 : R.2.2.1 - zN Z + (R1.2.2.1 - R.2.2.1) = R1.2.2.1 - zN Z := by have := hR.2.1; omega
  have a2 : R.2.2.2 - zS Z + (R1.2.2.2 - R.2.2.2) = R1.2.2.2 - zS Z := by have := hR.2.2; omega
  rw [a1, a2] at X'
  have hS1 : va_S (qA (zG Z)) s.heap T'.heap (locs ++ L) := ⟨Nat.le_trans hS.1 (by rw [e1]; exact hz1), fun q g1 g2 => by rw [e1, hk1 q (Nat.lt_of_lt_of_le g1 hS.1) g2]; exact hS.2.1 q g1 g2, fun q hq => by
    rcases List.mem_append.mp hq with g | g
    · exact hS.2.2 q g
    · exact hL q g⟩
  obtain ⟨t2, b1, b2⟩ := h p e s m below meth c T'.heap (locs ++ L) ls C ⟨by rw [e1]; exact hP1, Nat.le_trans hR.2.1 hle.1, Nat.le_trans hR.2.2 hle.2⟩ hS1 hv T' rfl X'
  exact ⟨t2, stp t2 b1, b2⟩
/-- room for a callee -/
def qroom (Z : qZ) (M : qM) (d : Nat) (R1 : qR) : Prop := d + 1 ≤ (zR Z).frames ∧ 8 + (M.2.2.1 + 11) + 64 * d ≤ (zR Z).locals ∧ R1.2.2.1 - zN Z ≤ (zR Z).cells ∧ R1.2.2.2 - zS Z ≤ (zR Z).slots
theorem qroom_fits {M : qM} {d : Nat} (hr : qroom Z M d R1) (hle : R.2.2.1 ≤ R1.2.2.1 ∧ R.2.2.2 ≤ R1.2.2.2) (h1 : zN Z ≤ R.2.2.1) (h2 : zS Z ≤ R.2.2.2) : R.2.2.1 - zN Z + (R1.2.2.1 - R.2.2.1) ≤ (zR Z).cells ∧ R.2.2.2 - zS Z + (R1.2.2.2 - R.2.2.2) ≤ (zR Z).slots := by
  have := hr.2.2.1
  have := hr.2.2.2
  omega
/-- what a callee's name must be -/
def qnm (M : qM) (n : Nat) : Prop := M.1.cls ≠ "java/lang/invoke/MethodHandle" ∧ M.1.cls ≠ "java/lang/invoke/VarHandle" ∧ (parseMethodDescriptor M.1.desc).map (fun d => d.parameters.length) = some n
def qCV (own : String) (index n ci : Nat) (M : qM) : Prop := Cond.code M.1 M.2.1 M.2.2.1 M.2.2.2 ∈ wW ∧ Cond.initialized M.1.cls ∈ wW ∧ Cond.methodLink own index M.1 ∈ wW ∧ Cond.instanceMethod M.1 ∈ wW ∧ Cond.selects M.1.cls M.1 M.1 ∈ wW ∧ qnm M n ∧ ci < 9 ∧ ∃ T N, vwCl[ci]? = some (M.1.cls, T, N)
def qCS (own : String) (index n : Nat) (M : qM) : Prop := Cond.code M.1 M.2.1 M.2.2.1 M.2.2.2 ∈ wW ∧ Cond.initialized M.1.cls ∈ wW ∧ Cond.methodLink own index M.1 ∈ wW ∧ Cond.static M.1 ∈ wW ∧ qnm M n
def qCI (own : String) (index n : Nat) (M : qM) : Prop := Cond.code M.1 M.2.1 M.2.2.1 none ∈ wW ∧ Cond.initialized M.1.cls ∈ wW ∧ Cond.methodLink own index M.1 ∈ wW ∧ Cond.instanceMethod M.1 ∈ wW ∧ M.1.name = "<init>" ∧ qnm M n ∧ M.2.2.2 = none
def qCIN (own : String) (index n : Nat) (host : String) (M : qM) : Prop := Cond.code M.1 M.2.1 M.2.2.1 none ∈ wW ∧ Cond.initialized M.1.cls ∈ wW ∧ Cond.methodLinkNest own index M.1 host ∈ qNest ∧ Cond.instanceMethod M.1 ∈ wW ∧ M.1.name = "<init>" ∧ qnm M n ∧ M.2.2.2 = none
theorem aw_callV {own : String} {index n ci a : Nat} (hM : qMt (zl Z) (zG Z) M d (.ref ((zG Z).1 + a) :: As) I R v1 I1 R1) (hC : qCV own index n ci M) (hn : As.length = n) (hr : qroom Z M d R1) (ho : (zM Z).1.cls = own) (ha : qok R a ci) (hs : (rest.map fun v => v.category).sum ≤ 8) (hd : decode (zc Z) pc = .ok (.invokevirtual index, 3)) (hst : st0 = As.reverse ++ .ref ((zG Z).1 + a) :: rest)
    (h : AW Z (pc + 3) lv (v1.toList ++ rest) I1 R1) : AW Z pc lv st0 I R := by
  obtain ⟨c1, c2, c3, c4, c5, c6, c7, T, N, c8⟩ := hC
  subst ho hst
  refine aw_run (a := (Value.ref ((zG Z).1 + a) :: As).toArray) hM.1 (fun p e s m below meth c H locs ls C hz hP hn0 hs0 hl => ?_) h
  have he := qw_at (zG Z) I R ha.1
  rw [qcell_o ha.2 c7] at he
  have hts := C.2.2.2.2.2.1
  exact va_runV (cc := zc Z) (nL := zn Z) (n := n) (As := As) (C := M.1.cls) (bytes := M.2.1) (maxL := M.2.2.1) (ret := M.2.2.2) (ws := qws M) ⟨C.1, C.2.1, C.2.2.2.1, C.2.2.2.2.1, hts⟩ hM.2 ⟨callB_of n hts (qws_good c1) rfl rfl rfl (hts _ c2) (hts _ c3) c6 ⟨hr.1, hr.2.1⟩, hts _ c4, hts _ c5⟩
    ⟨qblind _ _ _ _, va_recv C.2.2.2.2.2.2.2.2.1.1 hP c8 he, fun U hU hW => ⟨rfl, by rw [hU]; exact hz, by rw [hU]; exact hP, C.2.2.2.2.2.2.2.2.1.moved hW⟩⟩ rfl hn hl.1 rfl (lv_room hs) hd (qroom_fits hr hM.1 hn0 hs0)
theorem aw_callS {own : String} {index n : Nat} (hM : qMt (zl Z) (zG Z) M d As I R v1 I1 R1) (hC : qCS own index n M) (hn : As.length = n) (hr : qroom Z M d R1) (ho : (zM Z).1.cls = own) (hs : (rest.map fun v => v.category).sum ≤ 8) (hd : decode (zc Z) pc = .ok (.invokestatic index, 3)) (hst : st0 = As.reverse ++ rest)
    (h : AW Z (pc + 3) lv (v1.toList ++ rest) I1 R1) : AW Z pc lv st0 I R := by
  obtain ⟨c1, c2, c3, c4, c6⟩ := hC
  subst ho hst
  refine aw_run (a := As.toArray) hM.1 (fun p e s m below meth c H locs ls C hz hP hn0 hs0 hl => ?_) h
  have hts := C.2.2.2.2.2.1
  exact va_runS (cc := zc Z) (nL := zn Z) (n := n) (As := As) (bytes := M.2.1) (maxL := M.2.2.1) (ret := M.2.2.2) (ws := qws M) ⟨C.1, C.2.1, C.2.2.2.1, C.2.2.2.2.1, hts⟩ hM.2 ⟨callB_of n hts (qws_good c1) rfl rfl rfl (hts _ c2) (hts _ c3) c6 ⟨hr.1, hr.2.1⟩, hts _ c4⟩
    ⟨qblind _ _ _ _, fun U hU hW => ⟨rfl, by rw [hU]; exact hz, by rw [hU]; exact hP, C.2.2.2.2.2.2.2.2.1.moved hW⟩⟩ rfl hn hl.1 rfl (lv_room hs) hd (qroom_fits hr hM.1 hn0 hs0)
theorem aw_callI {own : String} {index n a : Nat} (hM : qMt (zl Z) (zG Z) M d (.ref ((zG Z).1 + a) :: As) I R none I1 R1) (hC : qCI own index n M) (hn : As.length = n) (hr : qroom Z M d R1) (ho : (zM Z).1.cls = own) (hs : (rest.map fun v => v.category).sum ≤ 8) (hd : decode (zc Z) pc = .ok (.invokespecial index, 3)) (hst : st0 = As.reverse ++ .ref ((zG Z).1 + a) :: rest)
    (h : AW Z (pc + 3) lv rest I1 R1) : AW Z pc lv st0 I R := by
  obtain ⟨c1, c2, c3, c4, c5, c6, c7⟩ := hC
  obtain ⟨y, cc, mL, rt⟩ := M
  dsimp only at c1 c2 c3 c4 c5 c6 c7
  subst c7
  subst ho hst
  refine aw_run (v1 := none) (rest := rest) (a := (Value.ref ((zG Z).1 + a) :: As).toArray) hM.1 (fun p e s m below meth c H locs ls C hz hP hn0 hs0 hl => ?_) h
  have hts := C.2.2.2.2.2.1
  exact va_runI (cc := zc Z) (nL := zn Z) (n := n) (As := As) (bytes := cc) (maxL := mL) (ws := qws (y, cc, mL, none)) ⟨C.1, C.2.1, C.2.2.2.1, C.2.2.2.2.1, hts⟩ hM.2 ⟨callB_of n hts (qws_good (M := (y, cc, mL, none)) c1) rfl rfl rfl (hts _ c2) (hts _ c3) c6 ⟨hr.1, hr.2.1⟩, c5, hts _ c4⟩
    ⟨qblind _ _ _ _, fun U hU hW => ⟨rfl, by rw [hU]; exact hz, by rw [hU]; exact hP, C.2.2.2.2.2.2.2.2.1.moved hW⟩⟩ rfl hn hl.1 rfl (lv_room hs) hd (qroom_fits hr hM.1 hn0 hs0)
theorem aw_callIN {own host : String} {index n a : Nat} (hM : qMt (zl Z) (zG Z) M d (.ref ((zG Z).1 + a) :: As) I R none I1 R1) (hC : qCIN own index n host M) (hn : As.length = n) (hr : qroom Z M d R1) (ho : (zM Z).1.cls = own) (hs : (rest.map fun v => v.category).sum ≤ 8) (hd : decode (zc Z) pc = .ok (.invokespecial index, 3)) (hst : st0 = As.reverse ++ .ref ((zG Z).1 + a) :: rest)
    (h : AW Z (pc + 3) lv rest I1 R1) : AW Z pc lv st0 I R := by
  obtain ⟨c1, c2, c3, c4, c5, c6, c7⟩ := hC
  obtain ⟨y, cc, mL, rt⟩ := M
  dsimp only at c1 c2 c3 c4 c5 c6 c7
  subst c7
  subst ho hst
  refine aw_run (v1 := none) (rest := rest) (a := (Value.ref ((zG Z).1 + a) :: As).toArray) hM.1 (fun p e s m below meth c H locs ls C hz hP hn0 hs0 hl => ?_) h
  have hts := C.2.2.2.2.2.1
  exact va_runIN (cc := zc Z) (nL := zn Z) (n := n) (As := As) (bytes := cc) (maxL := mL) (ws := qws (y, cc, mL, none)) ⟨C.1, C.2.1, C.2.2.2.1, C.2.2.2.2.1, hts⟩ hM.2 ⟨va_cnB n hts (qws_good (M := (y, cc, mL, none)) c1) rfl rfl rfl (C.2.2.2.2.2.2.2.2.1.2.1 _ c3) (hts _ c2) c6 ⟨hr.1, hr.2.1⟩, c5, hts _ c4⟩
    ⟨qblind _ _ _ _, fun U hU hW => ⟨rfl, by rw [hU]; exact hz, by rw [hU]; exact hP, C.2.2.2.2.2.2.2.2.1.moved hW⟩⟩ rfl hn hl.1 rfl (lv_room hs) hd (qroom_fits hr hM.1 hn0 hs0)
end AWC
section AWE
variable {l : Launch} {G : qG} {M : qM} {d : Nat} {As : List Value} {R0 : qR} {v1 : Option Value} {I1 : qI} {R1 : qR} {pc : Nat} {lv : List (Nat × Value)} {I : qI} {R : qR}
theorem aw_iret {x : Int32} (hr : M.2.2.2 = some .int) (hd : decode M.2.1 pc = .ok (.ireturn, 1)) (h1 : v1 = some (.int x)) (h2 : I1 = I) (h3 : R1 = R) : AW (Zm l G M d As R0 v1 I1 R1) pc lv [.int x] I R := by
  subst h1 h2 h3
  intro p e s m below meth c H locs ls C hR hS hv
  have hlocks := C.2.2.2.2.2.2.1
  exact W.iret C.1 C.2.1 (C.2.2.1.trans hr) (fun t ht hW => ⟨rfl, by rw [ht]; exact hR.1, hS.F ht⟩) hS.2.2 hd
theorem aw_zret {x : Int32} (hr : M.2.2.2 = some .boolean) (hx : narrow .boolean (.int x) = .int x) (hd : decode M.2.1 pc = .ok (.ireturn, 1)) (h1 : v1 = some (.int x)) (h2 : I1 = I) (h3 : R1 = R) : AW (Zm l G M d As R0 v1 I1 R1) pc lv [.int x] I R := by
  subst h1 h2 h3
  intro p e s m below meth c H locs ls C hR hS hv
  have hlocks := C.2.2.2.2.2.2.1
  exact W.zret C.1 C.2.1 (C.2.2.1.trans hr) hx (fun t ht hW => ⟨rfl, by rw [ht]; exact hR.1, hS.F ht⟩) hS.2.2 hd
theorem aw_vret (hr : M.2.2.2 = none) (hd : decode M.2.1 pc = .ok (.return_, 1)) (h1 : v1 = none) (h2 : I1 = I) (h3 : R1 = R) : AW (Zm l G M d As R0 v1 I1 R1) pc lv [] I R := by
  subst h1 h2 h3
  intro p e s m below meth c H locs ls C hR hS hv
  have hlocks := C.2.2.2.2.2.2.1
  exact W.vret C.1 C.2.1 (C.2.2.1.trans hr) (fun t ht hW => ⟨rfl, by rw [ht]; exact hR.1, hS.F ht⟩) hS.2.2 hd
theorem aw_aret {v : Value} {t0 : String} (hr : M.2.2.2 = some (.object t0)) (hx : v = .null ∨ ∃ a, v = .ref a) (hd : decode M.2.1 pc = .ok (.areturn, 1)) (h1 : v1 = some v) (h2 : I1 = I) (h3 : R1 = R) : AW (Zm l G M d As R0 v1 I1 R1) pc lv [v] I R := by
  subst h1 h2 h3
  intro p e s m below meth c H locs ls C hR hS hv
  have hlocks := C.2.2.2.2.2.2.1
  exact W.aret C.1 C.2.1 (C.2.2.1.trans hr) (Or.inl ⟨_, rfl⟩) hx (fun t ht hW => ⟨rfl, by rw [ht]; exact hR.1, hS.F ht⟩) hS.2.2 hd
end AWE
section AWL
variable {Z : qZ} {pc : Nat} {lv : List (Nat × Value)} {st : List Value} {I : qI} {R : qR}
theorem aw_max {own : String} {index : Nat} {x y : Int32} (h1 : Cond.methodLink own index Lib.Math.max.name ∈ wW) (h2 : Cond.static Lib.Math.max.name ∈ wW) (h3 : Cond.initialized "java/lang/Math" ∈ wW) (h4 : Cond.code Lib.Math.max.name Lib.Math.max.code 2 (some .int) ∈ wW) (ho : (zM Z).1.cls = own) (hs : (st.map fun v => v.category).sum ≤ 8) (hf : 1 ≤ (zR Z).frames) (hlo : 64 ≤ (zR Z).locals) (hc : R.2.2.1 - zN Z ≤ (zR Z).cells) (hc2 : R.2.2.2 - zS Z ≤ (zR Z).slots) (hd : decode (zc Z) pc = .ok (.invokestatic index, 3))
    (h : AW Z (pc + 3) lv (.int (if x < y then y else x) :: st) I R) : AW Z pc lv (.int y :: .int x :: st) I R := by
  intro p e s m below meth c H locs ls C hR hS hv
  subst ho
  have hts := C.2.2.2.2.2.1
  exact va_mmax C.1 C.2.1 (C.2.2.2.1.trans hv.1.symm) C.2.2.2.2.1 (hts _ h1) (hts _ h2) (hts _ h3) (hts _ h4) hf (by omega) hc hc2 hd (h p e s m below meth c H locs ls C hR hS hv)
theorem aw_min {own : String} {index : Nat} {x y : Int32} (h1 : Cond.methodLink own index Lib.Math.min.name ∈ wW) (h2 : Cond.static Lib.Math.min.name ∈ wW) (h3 : Cond.initialized "java/lang/Math" ∈ wW) (h4 : Cond.code Lib.Math.min.name Lib.Math.min.code 2 (some .int) ∈ wW) (ho : (zM Z).1.cls = own) (hs : (st.map fun v => v.category).sum ≤ 8) (hf : 1 ≤ (zR Z).frames) (hlo : 64 ≤ (zR Z).locals) (hc : R.2.2.1 - zN Z ≤ (zR Z).cells) (hc2 : R.2.2.2 - zS Z ≤ (zR Z).slots) (hd : decode (zc Z) pc = .ok (.invokestatic index, 3))
    (h : AW Z (pc + 3) lv (.int (if y < x then y else x) :: st) I R) : AW Z pc lv (.int y :: .int x :: st) I R := by
  intro p e s m below meth c H locs ls C hR hS hv
  subst ho
  have hts := C.2.2.2.2.2.1
  exact va_mmin C.1 C.2.1 (C.2.2.2.1.trans hv.1.symm) C.2.2.2.2.1 (hts _ h1) (hts _ h2) (hts _ h3) (hts _ h4) hf (by omega) hc hc2 hd (h p e s m below meth c H locs ls C hR hS hv)
def qcp (I : qI) (a b sp dp n : Nat) : qI := fun x => if x = b then va_cpy (I a) (I b) sp dp n else I x
theorem aw_copy {own : String} {index a b : Nat} {sp dp x : Int32} (h1 : Cond.methodLink own index arraycopyName ∈ wW) (h2 : Cond.native arraycopyName ∈ wW) (h3 : Cond.static arraycopyName ∈ wW) (h4 : Cond.initialized "java/lang/System" ∈ wW) (ho : (zM Z).1.cls = own) (ha : qok R a 9) (hb : qok R b 9) (g1 : ¬ sp < 0) (g2 : ¬ dp < 0) (g3 : ¬ x < 0) (g4 : sp.toNatClampNeg + x.toNatClampNeg ≤ (R.2.1 a).2) (g5 : dp.toNatClampNeg + x.toNatClampNeg ≤ (R.2.1 b).2) (hs : (st.map fun v => v.category).sum ≤ 8) (hf : 1 ≤ (zR Z).frames) (hlo : 64 ≤ (zR Z).locals) (hd : decode (zc Z) pc = .ok (.invokestatic index, 3))
    (h : AW Z (pc + 3) lv st (qcp I a b sp.toNatClampNeg dp.toNatClampNeg x.toNatClampNeg) R) : AW Z pc lv (.int x :: .int dp :: .ref ((zG Z).1 + b) :: .int sp :: .ref ((zG Z).1 + a) :: st) I R := by
  intro p e s m below meth c H locs ls C hR hS hv
  subst ho
  have hts := C.2.2.2.2.2.1
  have he := qw_at (zG Z) I R ha.1
  rw [qcell_i ha.2] at he
  have he2 := qw_at (zG Z) I R hb.1
  rw [qcell_i hb.2] at he2
  refine va_copyi C.1 C.2.1 (C.2.2.2.1.trans hv.1.symm) C.2.2.2.2.1 (hts _ h1) (hts _ h2) (hts _ h3) (hts _ h4) C.2.2.2.2.2.2.2.2.1.1 hR.1 (qD _ I R) hS a b 0 0 he he2 rfl rfl rfl g1 g2 g3 g4 g5 (fun i _ => rfl) hf (by
    have : nativeFrameWords "java/lang/System" "arraycopy" 5 + 11 ≤ 56 := by decide +kernel
    omega) hd (fun H1 locs1 hP1 hD1 hS1 => h p e s m below meth c H1 locs1 ls C ⟨?_, hR.2⟩ hS1 hv)
  have hc : qcell (zG Z) (qcp I a b sp.toNatClampNeg dp.toNatClampNeg x.toNatClampNeg) R b = .inl ((zG Z).2.2.1, (R.2.1 b).2, .inl (va_cpy (I a) (I b) sp.toNatClampNeg dp.toNatClampNeg x.toNatClampNeg)) := by
    rw [qcell_i hb.2]
    simp [qcp]
  rw [← hc, qw_set (zG Z) I _ R R rfl (fun j hj => by unfold qcell qcp; rw [if_neg hj])] at hP1
  exact hP1
end AWL
end
