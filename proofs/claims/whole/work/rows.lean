section
-- ===== PART A: goes FIRST, ahead of the names: the tables' words, and 'selects' of the private methods out of them =====
/-- a private method of a class that the tables say can be made, by its rows of tables_1 -/
def lw_okq (q : MethodName × Nat) : Prop := (q.1.cls ≠ "java/lang/invoke/MethodHandle" ∧ q.1.cls ≠ "java/lang/invoke/VarHandle") ∧ Cond.instantiable q.1.cls q.2 ∈ tables_1 ∧ Cond.privateMethod q.1 ∈ tables_1 ∧ Cond.instanceMethod q.1 ∈ tables_1
theorem lw_p0 : lw_okq (⟨"TrainBook", "trainOf", "(I)LTrainBook$Train;"⟩, 6) := ⟨⟨by decide +kernel, by decide +kernel⟩, List.mem_of_getElem? (i := 15) (by decide +kernel), List.mem_of_getElem? (i := 274) (by decide +kernel), List.mem_of_getElem? (i := 275) (by decide +kernel)⟩
theorem lw_p1 : lw_okq (⟨"TrainBook", "aboutBook", "(I)I"⟩, 6) := ⟨⟨by decide +kernel, by decide +kernel⟩, List.mem_of_getElem? (i := 15) (by decide +kernel), List.mem_of_getElem? (i := 330) (by decide +kernel), List.mem_of_getElem? (i := 331) (by decide +kernel)⟩
theorem lw_p2 : lw_okq (⟨"TrainBook$SignBook", "unionOf", "(I)I"⟩, 1) := ⟨⟨by decide +kernel, by decide +kernel⟩, List.mem_of_getElem? (i := 25) (by decide +kernel), List.mem_of_getElem? (i := 354) (by decide +kernel), List.mem_of_getElem? (i := 355) (by decide +kernel)⟩
theorem lw_p3 : lw_okq (⟨"TrainBook", "canBeTable", "(I)Z"⟩, 6) := ⟨⟨by decide +kernel, by decide +kernel⟩, List.mem_of_getElem? (i := 15) (by decide +kernel), List.mem_of_getElem? (i := 375) (by decide +kernel), List.mem_of_getElem? (i := 376) (by decide +kernel)⟩
theorem lw_p4 : lw_okq (⟨"TrainBook$Table", "takeMembers", "([LTrainBook$Train;I)V"⟩, 7) := ⟨⟨by decide +kernel, by decide +kernel⟩, List.mem_of_getElem? (i := 36) (by decide +kernel), List.mem_of_getElem? (i := 383) (by decide +kernel), List.mem_of_getElem? (i := 384) (by decide +kernel)⟩
theorem lw_p5 : lw_okq (⟨"TrainBook$RowSearch", "prepare", "([LTrainBook$Train;I)V"⟩, 9) := ⟨⟨by decide +kernel, by decide +kernel⟩, List.mem_of_getElem? (i := 43) (by decide +kernel), List.mem_of_getElem? (i := 398) (by decide +kernel), List.mem_of_getElem? (i := 399) (by decide +kernel)⟩
theorem lw_p6 : lw_okq (⟨"TrainBook$RowSearch", "readStops", "(LTrainBook$Train;I)V"⟩, 9) := ⟨⟨by decide +kernel, by decide +kernel⟩, List.mem_of_getElem? (i := 43) (by decide +kernel), List.mem_of_getElem? (i := 402) (by decide +kernel), List.mem_of_getElem? (i := 403) (by decide +kernel)⟩
theorem lw_p7 : lw_okq (⟨"TrainBook$RowSearch", "fillPair", "(ILTrainBook$Train;LTrainBook$Train;)V"⟩, 9) := ⟨⟨by decide +kernel, by decide +kernel⟩, List.mem_of_getElem? (i := 43) (by decide +kernel), List.mem_of_getElem? (i := 406) (by decide +kernel), List.mem_of_getElem? (i := 407) (by decide +kernel)⟩
theorem lw_p8 : lw_okq (⟨"TrainBook$RowSearch", "openKnown", "(I)V"⟩, 9) := ⟨⟨by decide +kernel, by decide +kernel⟩, List.mem_of_getElem? (i := 43) (by decide +kernel), List.mem_of_getElem? (i := 411) (by decide +kernel), List.mem_of_getElem? (i := 412) (by decide +kernel)⟩
theorem lw_p9 : lw_okq (⟨"TrainBook$RowSearch", "needOf", "(I)I"⟩, 9) := ⟨⟨by decide +kernel, by decide +kernel⟩, List.mem_of_getElem? (i := 43) (by decide +kernel), List.mem_of_getElem? (i := 417) (by decide +kernel), List.mem_of_getElem? (i := 418) (by decide +kernel)⟩
theorem lw_p10 : lw_okq (⟨"TrainBook$RowSearch", "leastNeed", "(I)I"⟩, 9) := ⟨⟨by decide +kernel, by decide +kernel⟩, List.mem_of_getElem? (i := 43) (by decide +kernel), List.mem_of_getElem? (i := 421) (by decide +kernel), List.mem_of_getElem? (i := 422) (by decide +kernel)⟩
theorem lw_p11 : lw_okq (⟨"TrainBook$RowSearch", "placeOf", "(II)I"⟩, 9) := ⟨⟨by decide +kernel, by decide +kernel⟩, List.mem_of_getElem? (i := 43) (by decide +kernel), List.mem_of_getElem? (i := 425) (by decide +kernel), List.mem_of_getElem? (i := 426) (by decide +kernel)⟩
theorem lw_p12 : lw_okq (⟨"TrainBook$RowSearch", "pairNeedAt", "(III)I"⟩, 9) := ⟨⟨by decide +kernel, by decide +kernel⟩, List.mem_of_getElem? (i := 43) (by decide +kernel), List.mem_of_getElem? (i := 430) (by decide +kernel), List.mem_of_getElem? (i := 431) (by decide +kernel)⟩
theorem lw_p13 : lw_okq (⟨"TrainBook$RowSearch", "keep", "(II)V"⟩, 9) := ⟨⟨by decide +kernel, by decide +kernel⟩, List.mem_of_getElem? (i := 43) (by decide +kernel), List.mem_of_getElem? (i := 437) (by decide +kernel), List.mem_of_getElem? (i := 438) (by decide +kernel)⟩
theorem lw_p14 : lw_okq (⟨"TrainBook$RowSearch", "nextStations", "(I)I"⟩, 9) := ⟨⟨by decide +kernel, by decide +kernel⟩, List.mem_of_getElem? (i := 43) (by decide +kernel), List.mem_of_getElem? (i := 444) (by decide +kernel), List.mem_of_getElem? (i := 445) (by decide +kernel)⟩
theorem lw_p15 : lw_okq (⟨"TrainBook$RowSearch", "passed", "(II)I"⟩, 9) := ⟨⟨by decide +kernel, by decide +kernel⟩, List.mem_of_getElem? (i := 43) (by decide +kernel), List.mem_of_getElem? (i := 448) (by decide +kernel), List.mem_of_getElem? (i := 449) (by decide +kernel)⟩
def lw_privs_1 : List (MethodName × Nat) := [(⟨"TrainBook", "trainOf", "(I)LTrainBook$Train;"⟩, 6), (⟨"TrainBook", "aboutBook", "(I)I"⟩, 6), (⟨"TrainBook$SignBook", "unionOf", "(I)I"⟩, 1), (⟨"TrainBook", "canBeTable", "(I)Z"⟩, 6), (⟨"TrainBook$Table", "takeMembers", "([LTrainBook$Train;I)V"⟩, 7), (⟨"TrainBook$RowSearch", "prepare", "([LTrainBook$Train;I)V"⟩, 9), (⟨"TrainBook$RowSearch", "readStops", "(LTrainBook$Train;I)V"⟩, 9), (⟨"TrainBook$RowSearch", "fillPair", "(ILTrainBook$Train;LTrainBook$Train;)V"⟩, 9), (⟨"TrainBook$RowSearch", "openKnown", "(I)V"⟩, 9), (⟨"TrainBook$RowSearch", "needOf", "(I)I"⟩, 9), (⟨"TrainBook$RowSearch", "leastNeed", "(I)I"⟩, 9), (⟨"TrainBook$RowSearch", "placeOf", "(II)I"⟩, 9), (⟨"TrainBook$RowSearch", "pairNeedAt", "(III)I"⟩, 9), (⟨"TrainBook$RowSearch", "keep", "(II)V"⟩, 9), (⟨"TrainBook$RowSearch", "nextStations", "(I)I"⟩, 9), (⟨"TrainBook$RowSearch", "passed", "(II)I"⟩, 9)]
theorem lw_r1 : ∀ q ∈ lw_privs_1, lw_okq q := List.forall_mem_cons.mpr ⟨lw_p0, List.forall_mem_cons.mpr ⟨lw_p1, List.forall_mem_cons.mpr ⟨lw_p2, List.forall_mem_cons.mpr ⟨lw_p3, List.forall_mem_cons.mpr ⟨lw_p4, List.forall_mem_cons.mpr ⟨lw_p5, List.forall_mem_cons.mpr ⟨lw_p6, List.forall_mem_cons.mpr ⟨lw_p7, List.forall_mem_cons.mpr ⟨lw_p8, List.forall_mem_cons.mpr ⟨lw_p9, List.forall_mem_cons.mpr ⟨lw_p10, List.forall_mem_cons.mpr ⟨lw_p11, List.forall_mem_cons.mpr ⟨lw_p12, List.forall_mem_cons.mpr ⟨lw_p13, List.forall_mem_cons.mpr ⟨lw_p14, List.forall_mem_cons.mpr ⟨lw_p15, fun _ h => absurd h List.not_mem_nil⟩⟩⟩⟩⟩⟩⟩⟩⟩⟩⟩⟩⟩⟩⟩⟩
theorem lw_p16 : lw_okq (⟨"TrainBook$Table", "placeStops", "(I)V"⟩, 7) := ⟨⟨by decide +kernel, by decide +kernel⟩, List.mem_of_getElem? (i := 36) (by decide +kernel), List.mem_of_getElem? (i := 452) (by decide +kernel), List.mem_of_getElem? (i := 453) (by decide +kernel)⟩
theorem lw_p17 : lw_okq (⟨"TrainBook$ColumnOrder", "breachedBy", "([LTrainBook$Train;I)I"⟩, 6) := ⟨⟨by decide +kernel, by decide +kernel⟩, List.mem_of_getElem? (i := 79) (by decide +kernel), List.mem_of_getElem? (i := 460) (by decide +kernel), List.mem_of_getElem? (i := 461) (by decide +kernel)⟩
theorem lw_p18 : lw_okq (⟨"TrainBook$Train", "leaves", "(I)I"⟩, 6) := ⟨⟨by decide +kernel, by decide +kernel⟩, List.mem_of_getElem? (i := 124) (by decide +kernel), List.mem_of_getElem? (i := 468) (by decide +kernel), List.mem_of_getElem? (i := 469) (by decide +kernel)⟩
theorem lw_p19 : lw_okq (⟨"TrainBook$ColumnOrder", "fillFewest", "()V"⟩, 6) := ⟨⟨by decide +kernel, by decide +kernel⟩, List.mem_of_getElem? (i := 79) (by decide +kernel), List.mem_of_getElem? (i := 476) (by decide +kernel), List.mem_of_getElem? (i := 477) (by decide +kernel)⟩
theorem lw_p20 : lw_okq (⟨"TrainBook$ColumnOrder", "fewestWith", "(II)I"⟩, 6) := ⟨⟨by decide +kernel, by decide +kernel⟩, List.mem_of_getElem? (i := 79) (by decide +kernel), List.mem_of_getElem? (i := 480) (by decide +kernel), List.mem_of_getElem? (i := 481) (by decide +kernel)⟩
theorem lw_p21 : lw_okq (⟨"TrainBook$ColumnOrder", "setOrder", "()V"⟩, 6) := ⟨⟨by decide +kernel, by decide +kernel⟩, List.mem_of_getElem? (i := 79) (by decide +kernel), List.mem_of_getElem? (i := 486) (by decide +kernel), List.mem_of_getElem? (i := 487) (by decide +kernel)⟩
theorem lw_p22 : lw_okq (⟨"TrainBook$ColumnOrder", "firstBehind", "(I)I"⟩, 6) := ⟨⟨by decide +kernel, by decide +kernel⟩, List.mem_of_getElem? (i := 79) (by decide +kernel), List.mem_of_getElem? (i := 490) (by decide +kernel), List.mem_of_getElem? (i := 491) (by decide +kernel)⟩
theorem lw_p23 : lw_okq (⟨"TrainBook$Table", "planLanes", "()V"⟩, 7) := ⟨⟨by decide +kernel, by decide +kernel⟩, List.mem_of_getElem? (i := 36) (by decide +kernel), List.mem_of_getElem? (i := 494) (by decide +kernel), List.mem_of_getElem? (i := 495) (by decide +kernel)⟩
theorem lw_p24 : lw_okq (⟨"TrainBook$Table", "firstRow", "(I)I"⟩, 7) := ⟨⟨by decide +kernel, by decide +kernel⟩, List.mem_of_getElem? (i := 36) (by decide +kernel), List.mem_of_getElem? (i := 503) (by decide +kernel), List.mem_of_getElem? (i := 504) (by decide +kernel)⟩
theorem lw_p25 : lw_okq (⟨"TrainBook$Table", "lastRow", "(I)I"⟩, 7) := ⟨⟨by decide +kernel, by decide +kernel⟩, List.mem_of_getElem? (i := 36) (by decide +kernel), List.mem_of_getElem? (i := 507) (by decide +kernel), List.mem_of_getElem? (i := 508) (by decide +kernel)⟩
theorem lw_p26 : lw_okq (⟨"TrainBook$WayFinder", "soonestAt", "(III)I"⟩, 16) := ⟨⟨by decide +kernel, by decide +kernel⟩, List.mem_of_getElem? (i := 187) (by decide +kernel), List.mem_of_getElem? (i := 604) (by decide +kernel), List.mem_of_getElem? (i := 605) (by decide +kernel)⟩
theorem lw_p27 : lw_okq (⟨"TrainBook$WayFinder", "ride", "(LTrainBook$Train;)Z"⟩, 16) := ⟨⟨by decide +kernel, by decide +kernel⟩, List.mem_of_getElem? (i := 187) (by decide +kernel), List.mem_of_getElem? (i := 614) (by decide +kernel), List.mem_of_getElem? (i := 615) (by decide +kernel)⟩
theorem lw_p28 : lw_okq (⟨"TrainBook$WayFinder", "countLegs", "(III)V"⟩, 16) := ⟨⟨by decide +kernel, by decide +kernel⟩, List.mem_of_getElem? (i := 187) (by decide +kernel), List.mem_of_getElem? (i := 618) (by decide +kernel), List.mem_of_getElem? (i := 619) (by decide +kernel)⟩
theorem lw_p29 : lw_okq (⟨"TrainBook$WayFinder", "lastBoardTo", "(LTrainBook$Train;I)I"⟩, 16) := ⟨⟨by decide +kernel, by decide +kernel⟩, List.mem_of_getElem? (i := 187) (by decide +kernel), List.mem_of_getElem? (i := 622) (by decide +kernel), List.mem_of_getElem? (i := 623) (by decide +kernel)⟩
theorem lw_p30 : lw_okq (⟨"TrainBook$WayFinder", "firstTrain", "(II)I"⟩, 16) := ⟨⟨by decide +kernel, by decide +kernel⟩, List.mem_of_getElem? (i := 187) (by decide +kernel), List.mem_of_getElem? (i := 626) (by decide +kernel), List.mem_of_getElem? (i := 627) (by decide +kernel)⟩
theorem lw_p31 : lw_okq (⟨"TrainBook$WayFinder", "lastBoardBefore", "(LTrainBook$Train;I)I"⟩, 16) := ⟨⟨by decide +kernel, by decide +kernel⟩, List.mem_of_getElem? (i := 187) (by decide +kernel), List.mem_of_getElem? (i := 630) (by decide +kernel), List.mem_of_getElem? (i := 631) (by decide +kernel)⟩
def lw_privs_2 : List (MethodName × Nat) := [(⟨"TrainBook$Table", "placeStops", "(I)V"⟩, 7), (⟨"TrainBook$ColumnOrder", "breachedBy", "([LTrainBook$Train;I)I"⟩, 6), (⟨"TrainBook$Train", "leaves", "(I)I"⟩, 6), (⟨"TrainBook$ColumnOrder", "fillFewest", "()V"⟩, 6), (⟨"TrainBook$ColumnOrder", "fewestWith", "(II)I"⟩, 6), (⟨"TrainBook$ColumnOrder", "setOrder", "()V"⟩, 6), (⟨"TrainBook$ColumnOrder", "firstBehind", "(I)I"⟩, 6), (⟨"TrainBook$Table", "planLanes", "()V"⟩, 7), (⟨"TrainBook$Table", "firstRow", "(I)I"⟩, 7), (⟨"TrainBook$Table", "lastRow", "(I)I"⟩, 7), (⟨"TrainBook$WayFinder", "soonestAt", "(III)I"⟩, 16), (⟨"TrainBook$WayFinder", "ride", "(LTrainBook$Train;)Z"⟩, 16), (⟨"TrainBook$WayFinder", "countLegs", "(III)V"⟩, 16), (⟨"TrainBook$WayFinder", "lastBoardTo", "(LTrainBook$Train;I)I"⟩, 16), (⟨"TrainBook$WayFinder", "firstTrain", "(II)I"⟩, 16), (⟨"TrainBook$WayFinder", "lastBoardBefore", "(LTrainBook$Train;I)I"⟩, 16)]
theorem lw_r2 : ∀ q ∈ lw_privs_2, lw_okq q := List.forall_mem_cons.mpr ⟨lw_p16, List.forall_mem_cons.mpr ⟨lw_p17, List.forall_mem_cons.mpr ⟨lw_p18, List.forall_mem_cons.mpr ⟨lw_p19, List.forall_mem_cons.mpr ⟨lw_p20, List.forall_mem_cons.mpr ⟨lw_p21, List.forall_mem_cons.mpr ⟨lw_p22, List.forall_mem_cons.mpr ⟨lw_p23, List.forall_mem_cons.mpr ⟨lw_p24, List.forall_mem_cons.mpr ⟨lw_p25, List.forall_mem_cons.mpr ⟨lw_p26, List.forall_mem_cons.mpr ⟨lw_p27, List.forall_mem_cons.mpr ⟨lw_p28, List.forall_mem_cons.mpr ⟨lw_p29, List.forall_mem_cons.mpr ⟨lw_p30, List.forall_mem_cons.mpr ⟨lw_p31, fun _ h => absurd h List.not_mem_nil⟩⟩⟩⟩⟩⟩⟩⟩⟩⟩⟩⟩⟩⟩⟩⟩
theorem lw_p32 : lw_okq (⟨"TrainBook$WayFinder", "canChange", "(LTrainBook$Train;ILTrainBook$Train;I)Z"⟩, 16) := ⟨⟨by decide +kernel, by decide +kernel⟩, List.mem_of_getElem? (i := 187) (by decide +kernel), List.mem_of_getElem? (i := 634) (by decide +kernel), List.mem_of_getElem? (i := 635) (by decide +kernel)⟩
theorem lw_p33 : lw_okq (⟨"TrainBook$WayFinder", "chooseTrains", "(II)V"⟩, 16) := ⟨⟨by decide +kernel, by decide +kernel⟩, List.mem_of_getElem? (i := 187) (by decide +kernel), List.mem_of_getElem? (i := 638) (by decide +kernel), List.mem_of_getElem? (i := 639) (by decide +kernel)⟩
theorem lw_p34 : lw_okq (⟨"TrainBook$WayFinder", "chooseTrain", "(I)V"⟩, 16) := ⟨⟨by decide +kernel, by decide +kernel⟩, List.mem_of_getElem? (i := 187) (by decide +kernel), List.mem_of_getElem? (i := 643) (by decide +kernel), List.mem_of_getElem? (i := 644) (by decide +kernel)⟩
theorem lw_p35 : lw_okq (⟨"TrainBook$WayFinder", "firstBoard", "(LTrainBook$Train;ILTrainBook$Train;I)I"⟩, 16) := ⟨⟨by decide +kernel, by decide +kernel⟩, List.mem_of_getElem? (i := 187) (by decide +kernel), List.mem_of_getElem? (i := 647) (by decide +kernel), List.mem_of_getElem? (i := 648) (by decide +kernel)⟩
theorem lw_p36 : lw_okq (⟨"TrainBook$WayFinder", "chooseStations", "(II)V"⟩, 16) := ⟨⟨by decide +kernel, by decide +kernel⟩, List.mem_of_getElem? (i := 187) (by decide +kernel), List.mem_of_getElem? (i := 652) (by decide +kernel), List.mem_of_getElem? (i := 653) (by decide +kernel)⟩
theorem lw_p37 : lw_okq (⟨"TrainBook$WayFinder", "limitBefore", "(LTrainBook$Train;LTrainBook$Train;I)I"⟩, 16) := ⟨⟨by decide +kernel, by decide +kernel⟩, List.mem_of_getElem? (i := 187) (by decide +kernel), List.mem_of_getElem? (i := 656) (by decide +kernel), List.mem_of_getElem? (i := 657) (by decide +kernel)⟩
theorem lw_p38 : lw_okq (⟨"TrainBook$WayFinder", "leastChange", "(I)I"⟩, 16) := ⟨⟨by decide +kernel, by decide +kernel⟩, List.mem_of_getElem? (i := 187) (by decide +kernel), List.mem_of_getElem? (i := 660) (by decide +kernel), List.mem_of_getElem? (i := 661) (by decide +kernel)⟩
theorem lw_p39 : lw_okq (⟨"TrainBook$WayFinder", "readLeg", "(II)I"⟩, 16) := ⟨⟨by decide +kernel, by decide +kernel⟩, List.mem_of_getElem? (i := 187) (by decide +kernel), List.mem_of_getElem? (i := 668) (by decide +kernel), List.mem_of_getElem? (i := 669) (by decide +kernel)⟩
theorem lw_p40 : lw_okq (⟨"TrainBook$WayFinder", "collectMinutes", "(I)V"⟩, 16) := ⟨⟨by decide +kernel, by decide +kernel⟩, List.mem_of_getElem? (i := 187) (by decide +kernel), List.mem_of_getElem? (i := 680) (by decide +kernel), List.mem_of_getElem? (i := 681) (by decide +kernel)⟩
theorem lw_p41 : lw_okq (⟨"TrainBook$WayFinder", "insertMinute", "(I)V"⟩, 16) := ⟨⟨by decide +kernel, by decide +kernel⟩, List.mem_of_getElem? (i := 187) (by decide +kernel), List.mem_of_getElem? (i := 684) (by decide +kernel), List.mem_of_getElem? (i := 685) (by decide +kernel)⟩
theorem lw_p42 : lw_okq (⟨"TrainBookModel", "isDays", "(I)Z"⟩, 35) := ⟨⟨by decide +kernel, by decide +kernel⟩, List.mem_of_getElem? (i := 696) (by decide +kernel), List.mem_of_getElem? (i := 814) (by decide +kernel), List.mem_of_getElem? (i := 815) (by decide +kernel)⟩
theorem lw_p43 : lw_okq (⟨"TrainBookModel", "isTrain", "(I)Z"⟩, 35) := ⟨⟨by decide +kernel, by decide +kernel⟩, List.mem_of_getElem? (i := 696) (by decide +kernel), List.mem_of_getElem? (i := 822) (by decide +kernel), List.mem_of_getElem? (i := 823) (by decide +kernel)⟩
theorem lw_p44 : lw_okq (⟨"TrainBookModel", "isStation", "(I)Z"⟩, 35) := ⟨⟨by decide +kernel, by decide +kernel⟩, List.mem_of_getElem? (i := 696) (by decide +kernel), List.mem_of_getElem? (i := 826) (by decide +kernel), List.mem_of_getElem? (i := 827) (by decide +kernel)⟩
theorem lw_p45 : lw_okq (⟨"TrainBookModel", "isMinute", "(I)Z"⟩, 35) := ⟨⟨by decide +kernel, by decide +kernel⟩, List.mem_of_getElem? (i := 696) (by decide +kernel), List.mem_of_getElem? (i := 830) (by decide +kernel), List.mem_of_getElem? (i := 831) (by decide +kernel)⟩
theorem lw_p46 : lw_okq (⟨"TrainBookModel", "stopAt", "(II)I"⟩, 35) := ⟨⟨by decide +kernel, by decide +kernel⟩, List.mem_of_getElem? (i := 696) (by decide +kernel), List.mem_of_getElem? (i := 834) (by decide +kernel), List.mem_of_getElem? (i := 835) (by decide +kernel)⟩
theorem lw_p47 : lw_okq (⟨"TrainBookModel", "ones", "(I)I"⟩, 35) := ⟨⟨by decide +kernel, by decide +kernel⟩, List.mem_of_getElem? (i := 696) (by decide +kernel), List.mem_of_getElem? (i := 866) (by decide +kernel), List.mem_of_getElem? (i := 867) (by decide +kernel)⟩
def lw_privs_3 : List (MethodName × Nat) := [(⟨"TrainBook$WayFinder", "canChange", "(LTrainBook$Train;ILTrainBook$Train;I)Z"⟩, 16), (⟨"TrainBook$WayFinder", "chooseTrains", "(II)V"⟩, 16), (⟨"TrainBook$WayFinder", "chooseTrain", "(I)V"⟩, 16), (⟨"TrainBook$WayFinder", "firstBoard", "(LTrainBook$Train;ILTrainBook$Train;I)I"⟩, 16), (⟨"TrainBook$WayFinder", "chooseStations", "(II)V"⟩, 16), (⟨"TrainBook$WayFinder", "limitBefore", "(LTrainBook$Train;LTrainBook$Train;I)I"⟩, 16), (⟨"TrainBook$WayFinder", "leastChange", "(I)I"⟩, 16), (⟨"TrainBook$WayFinder", "readLeg", "(II)I"⟩, 16), (⟨"TrainBook$WayFinder", "collectMinutes", "(I)V"⟩, 16), (⟨"TrainBook$WayFinder", "insertMinute", "(I)V"⟩, 16), (⟨"TrainBookModel", "isDays", "(I)Z"⟩, 35), (⟨"TrainBookModel", "isTrain", "(I)Z"⟩, 35), (⟨"TrainBookModel", "isStation", "(I)Z"⟩, 35), (⟨"TrainBookModel", "isMinute", "(I)Z"⟩, 35), (⟨"TrainBookModel", "stopAt", "(II)I"⟩, 35), (⟨"TrainBookModel", "ones", "(I)I"⟩, 35)]
theorem lw_r3 : ∀ q ∈ lw_privs_3, lw_okq q := List.forall_mem_cons.mpr ⟨lw_p32, List.forall_mem_cons.mpr ⟨lw_p33, List.forall_mem_cons.mpr ⟨lw_p34, List.forall_mem_cons.mpr ⟨lw_p35, List.forall_mem_cons.mpr ⟨lw_p36, List.forall_mem_cons.mpr ⟨lw_p37, List.forall_mem_cons.mpr ⟨lw_p38, List.forall_mem_cons.mpr ⟨lw_p39, List.forall_mem_cons.mpr ⟨lw_p40, List.forall_mem_cons.mpr ⟨lw_p41, List.forall_mem_cons.mpr ⟨lw_p42, List.forall_mem_cons.mpr ⟨lw_p43, List.forall_mem_cons.mpr ⟨lw_p44, List.forall_mem_cons.mpr ⟨lw_p45, List.forall_mem_cons.mpr ⟨lw_p46, List.forall_mem_cons.mpr ⟨lw_p47, fun _ h => absurd h List.not_mem_nil⟩⟩⟩⟩⟩⟩⟩⟩⟩⟩⟩⟩⟩⟩⟩⟩
theorem lw_p48 : lw_okq (⟨"TrainBookModel", "findRows", "()V"⟩, 35) := ⟨⟨by decide +kernel, by decide +kernel⟩, List.mem_of_getElem? (i := 696) (by decide +kernel), List.mem_of_getElem? (i := 874) (by decide +kernel), List.mem_of_getElem? (i := 875) (by decide +kernel)⟩
theorem lw_p49 : lw_okq (⟨"TrainBookModel", "isPlace", "(I)Z"⟩, 35) := ⟨⟨by decide +kernel, by decide +kernel⟩, List.mem_of_getElem? (i := 696) (by decide +kernel), List.mem_of_getElem? (i := 878) (by decide +kernel), List.mem_of_getElem? (i := 879) (by decide +kernel)⟩
theorem lw_p50 : lw_okq (⟨"TrainBookModel", "digit", "(II)I"⟩, 35) := ⟨⟨by decide +kernel, by decide +kernel⟩, List.mem_of_getElem? (i := 696) (by decide +kernel), List.mem_of_getElem? (i := 882) (by decide +kernel), List.mem_of_getElem? (i := 883) (by decide +kernel)⟩
theorem lw_p51 : lw_okq (⟨"TrainBookModel", "behind", "(II)I"⟩, 35) := ⟨⟨by decide +kernel, by decide +kernel⟩, List.mem_of_getElem? (i := 696) (by decide +kernel), List.mem_of_getElem? (i := 886) (by decide +kernel), List.mem_of_getElem? (i := 887) (by decide +kernel)⟩
theorem lw_p52 : lw_okq (⟨"TrainBookModel", "findColumns", "()V"⟩, 35) := ⟨⟨by decide +kernel, by decide +kernel⟩, List.mem_of_getElem? (i := 696) (by decide +kernel), List.mem_of_getElem? (i := 890) (by decide +kernel), List.mem_of_getElem? (i := 891) (by decide +kernel)⟩
theorem lw_p53 : lw_okq (⟨"TrainBookModel", "breachesOf", "([I)I"⟩, 35) := ⟨⟨by decide +kernel, by decide +kernel⟩, List.mem_of_getElem? (i := 696) (by decide +kernel), List.mem_of_getElem? (i := 894) (by decide +kernel), List.mem_of_getElem? (i := 895) (by decide +kernel)⟩
theorem lw_p54 : lw_okq (⟨"TrainBookModel", "isBreach", "(II)Z"⟩, 35) := ⟨⟨by decide +kernel, by decide +kernel⟩, List.mem_of_getElem? (i := 696) (by decide +kernel), List.mem_of_getElem? (i := 898) (by decide +kernel), List.mem_of_getElem? (i := 899) (by decide +kernel)⟩
theorem lw_p55 : lw_okq (⟨"TrainBookModel", "leaves", "(II)I"⟩, 35) := ⟨⟨by decide +kernel, by decide +kernel⟩, List.mem_of_getElem? (i := 696) (by decide +kernel), List.mem_of_getElem? (i := 902) (by decide +kernel), List.mem_of_getElem? (i := 903) (by decide +kernel)⟩
theorem lw_p56 : lw_okq (⟨"TrainBookModel", "goesOn", "()Z"⟩, 35) := ⟨⟨by decide +kernel, by decide +kernel⟩, List.mem_of_getElem? (i := 696) (by decide +kernel), List.mem_of_getElem? (i := 906) (by decide +kernel), List.mem_of_getElem? (i := 907) (by decide +kernel)⟩
theorem lw_p57 : lw_okq (⟨"TrainBookModel", "swap", "(II)V"⟩, 35) := ⟨⟨by decide +kernel, by decide +kernel⟩, List.mem_of_getElem? (i := 696) (by decide +kernel), List.mem_of_getElem? (i := 910) (by decide +kernel), List.mem_of_getElem? (i := 911) (by decide +kernel)⟩
theorem lw_p58 : lw_okq (⟨"TrainBookModel", "findLanes", "()V"⟩, 35) := ⟨⟨by decide +kernel, by decide +kernel⟩, List.mem_of_getElem? (i := 696) (by decide +kernel), List.mem_of_getElem? (i := 914) (by decide +kernel), List.mem_of_getElem? (i := 915) (by decide +kernel)⟩
theorem lw_p59 : lw_okq (⟨"TrainBookModel", "first", "(I)I"⟩, 35) := ⟨⟨by decide +kernel, by decide +kernel⟩, List.mem_of_getElem? (i := 696) (by decide +kernel), List.mem_of_getElem? (i := 918) (by decide +kernel), List.mem_of_getElem? (i := 919) (by decide +kernel)⟩
theorem lw_p60 : lw_okq (⟨"TrainBookModel", "isFree", "(II)Z"⟩, 35) := ⟨⟨by decide +kernel, by decide +kernel⟩, List.mem_of_getElem? (i := 696) (by decide +kernel), List.mem_of_getElem? (i := 922) (by decide +kernel), List.mem_of_getElem? (i := 923) (by decide +kernel)⟩
theorem lw_p61 : lw_okq (⟨"TrainBookModel", "last", "(I)I"⟩, 35) := ⟨⟨by decide +kernel, by decide +kernel⟩, List.mem_of_getElem? (i := 696) (by decide +kernel), List.mem_of_getElem? (i := 926) (by decide +kernel), List.mem_of_getElem? (i := 927) (by decide +kernel)⟩
theorem lw_p62 : lw_okq (⟨"TrainBookModel", "isColumn", "(I)Z"⟩, 35) := ⟨⟨by decide +kernel, by decide +kernel⟩, List.mem_of_getElem? (i := 696) (by decide +kernel), List.mem_of_getElem? (i := 938) (by decide +kernel), List.mem_of_getElem? (i := 939) (by decide +kernel)⟩
theorem lw_p63 : lw_okq (⟨"TrainBookModel", "finds", "(IIII)Z"⟩, 35) := ⟨⟨by decide +kernel, by decide +kernel⟩, List.mem_of_getElem? (i := 696) (by decide +kernel), List.mem_of_getElem? (i := 966) (by decide +kernel), List.mem_of_getElem? (i := 967) (by decide +kernel)⟩
def lw_privs_4 : List (MethodName × Nat) := [(⟨"TrainBookModel", "findRows", "()V"⟩, 35), (⟨"TrainBookModel", "isPlace", "(I)Z"⟩, 35), (⟨"TrainBookModel", "digit", "(II)I"⟩, 35), (⟨"TrainBookModel", "behind", "(II)I"⟩, 35), (⟨"TrainBookModel", "findColumns", "()V"⟩, 35), (⟨"TrainBookModel", "breachesOf", "([I)I"⟩, 35), (⟨"TrainBookModel", "isBreach", "(II)Z"⟩, 35), (⟨"TrainBookModel", "leaves", "(II)I"⟩, 35), (⟨"TrainBookModel", "goesOn", "()Z"⟩, 35), (⟨"TrainBookModel", "swap", "(II)V"⟩, 35), (⟨"TrainBookModel", "findLanes", "()V"⟩, 35), (⟨"TrainBookModel", "first", "(I)I"⟩, 35), (⟨"TrainBookModel", "isFree", "(II)Z"⟩, 35), (⟨"TrainBookModel", "last", "(I)I"⟩, 35), (⟨"TrainBookModel", "isColumn", "(I)Z"⟩, 35), (⟨"TrainBookModel", "finds", "(IIII)Z"⟩, 35)]
theorem lw_r4 : ∀ q ∈ lw_privs_4, lw_okq q := List.forall_mem_cons.mpr ⟨lw_p48, List.forall_mem_cons.mpr ⟨lw_p49, List.forall_mem_cons.mpr ⟨lw_p50, List.forall_mem_cons.mpr ⟨lw_p51, List.forall_mem_cons.mpr ⟨lw_p52, List.forall_mem_cons.mpr ⟨lw_p53, List.forall_mem_cons.mpr ⟨lw_p54, List.forall_mem_cons.mpr ⟨lw_p55, List.forall_mem_cons.mpr ⟨lw_p56, List.forall_mem_cons.mpr ⟨lw_p57, List.forall_mem_cons.mpr ⟨lw_p58, List.forall_mem_cons.mpr ⟨lw_p59, List.forall_mem_cons.mpr ⟨lw_p60, List.forall_mem_cons.mpr ⟨lw_p61, List.forall_mem_cons.mpr ⟨lw_p62, List.forall_mem_cons.mpr ⟨lw_p63, fun _ h => absurd h List.not_mem_nil⟩⟩⟩⟩⟩⟩⟩⟩⟩⟩⟩⟩⟩⟩⟩⟩
theorem lw_p64 : lw_okq (⟨"TrainBookModel", "soonest", "(IIII)I"⟩, 35) := ⟨⟨by decide +kernel, by decide +kernel⟩, List.mem_of_getElem? (i := 696) (by decide +kernel), List.mem_of_getElem? (i := 970) (by decide +kernel), List.mem_of_getElem? (i := 971) (by decide +kernel)⟩
theorem lw_p65 : lw_okq (⟨"TrainBookModel", "runs", "(II)Z"⟩, 35) := ⟨⟨by decide +kernel, by decide +kernel⟩, List.mem_of_getElem? (i := 696) (by decide +kernel), List.mem_of_getElem? (i := 974) (by decide +kernel), List.mem_of_getElem? (i := 975) (by decide +kernel)⟩
theorem lw_p66 : lw_okq (⟨"TrainBookModel", "isBoarded", "(IIII)Z"⟩, 35) := ⟨⟨by decide +kernel, by decide +kernel⟩, List.mem_of_getElem? (i := 696) (by decide +kernel), List.mem_of_getElem? (i := 978) (by decide +kernel), List.mem_of_getElem? (i := 979) (by decide +kernel)⟩
theorem lw_p67 : lw_okq (⟨"TrainBookModel", "canChange", "(II)Z"⟩, 35) := ⟨⟨by decide +kernel, by decide +kernel⟩, List.mem_of_getElem? (i := 696) (by decide +kernel), List.mem_of_getElem? (i := 982) (by decide +kernel), List.mem_of_getElem? (i := 983) (by decide +kernel)⟩
theorem lw_p68 : lw_okq (⟨"TrainBookModel", "findRest", "(II)V"⟩, 35) := ⟨⟨by decide +kernel, by decide +kernel⟩, List.mem_of_getElem? (i := 696) (by decide +kernel), List.mem_of_getElem? (i := 986) (by decide +kernel), List.mem_of_getElem? (i := 987) (by decide +kernel)⟩
theorem lw_p69 : lw_okq (⟨"TrainBookModel", "canGoOn", "(III)Z"⟩, 35) := ⟨⟨by decide +kernel, by decide +kernel⟩, List.mem_of_getElem? (i := 696) (by decide +kernel), List.mem_of_getElem? (i := 990) (by decide +kernel), List.mem_of_getElem? (i := 991) (by decide +kernel)⟩
theorem lw_p70 : lw_okq (⟨"TrainBookModel", "firstTrain", "(ZIIII)I"⟩, 35) := ⟨⟨by decide +kernel, by decide +kernel⟩, List.mem_of_getElem? (i := 696) (by decide +kernel), List.mem_of_getElem? (i := 994) (by decide +kernel), List.mem_of_getElem? (i := 995) (by decide +kernel)⟩
theorem lw_p71 : lw_okq (⟨"TrainBookModel", "leavesAt", "(IZIII)Z"⟩, 35) := ⟨⟨by decide +kernel, by decide +kernel⟩, List.mem_of_getElem? (i := 696) (by decide +kernel), List.mem_of_getElem? (i := 998) (by decide +kernel), List.mem_of_getElem? (i := 999) (by decide +kernel)⟩
theorem lw_p72 : lw_okq (⟨"TrainBookModel", "canBoard", "(IZII)Z"⟩, 35) := ⟨⟨by decide +kernel, by decide +kernel⟩, List.mem_of_getElem? (i := 696) (by decide +kernel), List.mem_of_getElem? (i := 1002) (by decide +kernel), List.mem_of_getElem? (i := 1003) (by decide +kernel)⟩
theorem lw_p73 : lw_okq (⟨"TrainBookModel", "boardOf", "(IIIII)I"⟩, 35) := ⟨⟨by decide +kernel, by decide +kernel⟩, List.mem_of_getElem? (i := 696) (by decide +kernel), List.mem_of_getElem? (i := 1006) (by decide +kernel), List.mem_of_getElem? (i := 1007) (by decide +kernel)⟩
theorem lw_p74 : lw_okq (⟨"TrainBookModel", "restGoes", "(III)Z"⟩, 35) := ⟨⟨by decide +kernel, by decide +kernel⟩, List.mem_of_getElem? (i := 696) (by decide +kernel), List.mem_of_getElem? (i := 1010) (by decide +kernel), List.mem_of_getElem? (i := 1011) (by decide +kernel)⟩
theorem lw_p75 : lw_okq (⟨"TrainBookModel", "canDepart", "(III)Z"⟩, 35) := ⟨⟨by decide +kernel, by decide +kernel⟩, List.mem_of_getElem? (i := 696) (by decide +kernel), List.mem_of_getElem? (i := 1018) (by decide +kernel), List.mem_of_getElem? (i := 1019) (by decide +kernel)⟩
theorem lw_p76 : lw_okq (⟨"TrainBookModel", "findDepartures", "(III)V"⟩, 35) := ⟨⟨by decide +kernel, by decide +kernel⟩, List.mem_of_getElem? (i := 696) (by decide +kernel), List.mem_of_getElem? (i := 1022) (by decide +kernel), List.mem_of_getElem? (i := 1023) (by decide +kernel)⟩
theorem lw_p77 : lw_okq (⟨"TrainBookModel", "isGone", "(III)Z"⟩, 35) := ⟨⟨by decide +kernel, by decide +kernel⟩, List.mem_of_getElem? (i := 696) (by decide +kernel), List.mem_of_getElem? (i := 1026) (by decide +kernel), List.mem_of_getElem? (i := 1027) (by decide +kernel)⟩
def lw_privs_5 : List (MethodName × Nat) := [(⟨"TrainBookModel", "soonest", "(IIII)I"⟩, 35), (⟨"TrainBookModel", "runs", "(II)Z"⟩, 35), (⟨"TrainBookModel", "isBoarded", "(IIII)Z"⟩, 35), (⟨"TrainBookModel", "canChange", "(II)Z"⟩, 35), (⟨"TrainBookModel", "findRest", "(II)V"⟩, 35), (⟨"TrainBookModel", "canGoOn", "(III)Z"⟩, 35), (⟨"TrainBookModel", "firstTrain", "(ZIIII)I"⟩, 35), (⟨"TrainBookModel", "leavesAt", "(IZIII)Z"⟩, 35), (⟨"TrainBookModel", "canBoard", "(IZII)Z"⟩, 35), (⟨"TrainBookModel", "boardOf", "(IIIII)I"⟩, 35), (⟨"TrainBookModel", "restGoes", "(III)Z"⟩, 35), (⟨"TrainBookModel", "canDepart", "(III)Z"⟩, 35), (⟨"TrainBookModel", "findDepartures", "(III)V"⟩, 35), (⟨"TrainBookModel", "isGone", "(III)Z"⟩, 35)]
theorem lw_r5 : ∀ q ∈ lw_privs_5, lw_okq q := List.forall_mem_cons.mpr ⟨lw_p64, List.forall_mem_cons.mpr ⟨lw_p65, List.forall_mem_cons.mpr ⟨lw_p66, List.forall_mem_cons.mpr ⟨lw_p67, List.forall_mem_cons.mpr ⟨lw_p68, List.forall_mem_cons.mpr ⟨lw_p69, List.forall_mem_cons.mpr ⟨lw_p70, List.forall_mem_cons.mpr ⟨lw_p71, List.forall_mem_cons.mpr ⟨lw_p72, List.forall_mem_cons.mpr ⟨lw_p73, List.forall_mem_cons.mpr ⟨lw_p74, List.forall_mem_cons.mpr ⟨lw_p75, List.forall_mem_cons.mpr ⟨lw_p76, List.forall_mem_cons.mpr ⟨lw_p77, fun _ h => absurd h List.not_mem_nil⟩⟩⟩⟩⟩⟩⟩⟩⟩⟩⟩⟩⟩⟩
def lw_privs : List (MethodName × Nat) := lw_privs_1 ++ (lw_privs_2 ++ (lw_privs_3 ++ (lw_privs_4 ++ (lw_privs_5))))
def lw_tbl : List Cond := k2_sels lw_privs ++ tables_1
theorem lw_privs_ok : ∀ q ∈ lw_privs, lw_okq q := by
  show ∀ q ∈ lw_privs_1 ++ (lw_privs_2 ++ (lw_privs_3 ++ (lw_privs_4 ++ (lw_privs_5)))), lw_okq q
  exact List.forall_mem_append.mpr ⟨lw_r1, List.forall_mem_append.mpr ⟨lw_r2, List.forall_mem_append.mpr ⟨lw_r3, List.forall_mem_append.mpr ⟨lw_r4, lw_r5⟩⟩⟩⟩
end
section
def RX0 : String := "TrainBook$ColumnOrder"
def TX0 : u_T := fun k => match k with
  | 0 => ("TrainBook$ColumnOrder", "order", "[I", true)
  | 1 => ("TrainBook$ColumnOrder", "breachCount", "I", false)
  | 2 => ("TrainBook$ColumnOrder", "knotCount", "I", false)
  | 3 => ("TrainBook$ColumnOrder", "members", "I", false)
  | 4 => ("TrainBook$ColumnOrder", "breached", "[I", true)
  | _ => ("TrainBook$ColumnOrder", "fewest", "[I", true)
def tyX0 : Nat → FieldType := fun k => match k with
  | 0 => .array .int
  | 1 => .int
  | 2 => .int
  | 3 => .int
  | 4 => .array .int
  | _ => .array .int
abbrev wsX00 : List Cond := u_ws RX0 TX0 6
theorem nmX0 : ∀ a, a < 6 → ∀ b, b < 6 → a ≠ b → (TX0 a).2.1 ≠ (TX0 b).2.1 := by decide +kernel
theorem tyX0_ok : ∀ k, k < 6 → parseFieldDescriptor (TX0 k).2.2.1 = some (tyX0 k) := by decide +kernel
abbrev cX0_init : ByteArray := prog_2_method_1_code
def yX0_init : MethodName := ⟨RX0, "<init>", "()V"⟩
abbrev cX0_arrange : ByteArray := prog_2_method_2_code
def yX0_arrange : MethodName := ⟨RX0, "arrange", "([LTrainBook$Train;I)V"⟩
abbrev cX0_wouldBreach : ByteArray := prog_2_method_3_code
def yX0_wouldBreach : MethodName := ⟨RX0, "wouldBreach", "(II)Z"⟩
abbrev cX0_breachedBy : ByteArray := prog_2_method_4_code
def yX0_breachedBy : MethodName := ⟨RX0, "breachedBy", "([LTrainBook$Train;I)I"⟩
abbrev cX0_fillFewest : ByteArray := prog_2_method_5_code
def yX0_fillFewest : MethodName := ⟨RX0, "fillFewest", "()V"⟩
abbrev cX0_fewestWith : ByteArray := prog_2_method_6_code
def yX0_fewestWith : MethodName := ⟨RX0, "fewestWith", "(II)I"⟩
abbrev cX0_setOrder : ByteArray := prog_2_method_7_code
def yX0_setOrder : MethodName := ⟨RX0, "setOrder", "()V"⟩
abbrev cX0_firstBehind : ByteArray := prog_2_method_8_code
def yX0_firstBehind : MethodName := ⟨RX0, "firstBehind", "(I)I"⟩
def RX1 : String := "TrainBook$LanePlan"
def TX1 : u_T := fun k => match k with
  | 0 => ("TrainBook$LanePlan", "count", "I", false)
  | 1 => ("TrainBook$LanePlan", "laneOf", "[I", true)
  | _ => ("TrainBook$LanePlan", "lastRow", "[I", true)
def tyX1 : Nat → FieldType := fun k => match k with
  | 0 => .int
  | 1 => .array .int
  | _ => .array .int
abbrev wsX10 : List Cond := u_ws RX1 TX1 3
theorem nmX1 : ∀ a, a < 3 → ∀ b, b < 3 → a ≠ b → (TX1 a).2.1 ≠ (TX1 b).2.1 := by decide +kernel
theorem tyX1_ok : ∀ k, k < 3 → parseFieldDescriptor (TX1 k).2.2.1 = some (tyX1 k) := by decide +kernel
abbrev cX1_init : ByteArray := prog_3_method_1_code
def yX1_init : MethodName := ⟨RX1, "<init>", "()V"⟩
abbrev cX1_clear : ByteArray := prog_3_method_2_code
def yX1_clear : MethodName := ⟨RX1, "clear", "()V"⟩
abbrev cX1_give : ByteArray := prog_3_method_3_code
def yX1_give : MethodName := ⟨RX1, "give", "(III)V"⟩
def RX2 : String := "TrainBook$RowSearch"
def TX2 : u_T := fun k => match k with
  | 0 => ("TrainBook$RowSearch", "length", "I", false)
  | 1 => ("TrainBook$RowSearch", "path", "[I", true)
  | 2 => ("TrainBook$RowSearch", "members", "I", false)
  | 3 => ("TrainBook$RowSearch", "end", "I", false)
  | 4 => ("TrainBook$RowSearch", "stamp", "I", false)
  | 5 => ("TrainBook$RowSearch", "next", "[I", true)
  | 6 => ("TrainBook$RowSearch", "ahead", "[I", true)
  | 7 => ("TrainBook$RowSearch", "pairNeed", "[I", true)
  | _ => ("TrainBook$RowSearch", "known", "[I", false)
def tyX2 : Nat → FieldType := fun k => match k with
  | 0 => .int
  | 1 => .array .int
  | 2 => .int
  | 3 => .int
  | 4 => .int
  | 5 => .array .int
  | 6 => .array .int
  | 7 => .array .int
  | _ => .array .int
abbrev wsX20 : List Cond := u_ws RX2 TX2 9
theorem nmX2 : ∀ a, a < 9 → ∀ b, b < 9 → a ≠ b → (TX2 a).2.1 ≠ (TX2 b).2.1 := by decide +kernel
theorem tyX2_ok : ∀ k, k < 9 → parseFieldDescriptor (TX2 k).2.2.1 = some (tyX2 k) := by decide +kernel
abbrev cX2_init : ByteArray := prog_4_method_1_code
def yX2_init : MethodName := ⟨RX2, "<init>", "()V"⟩
abbrev cX2_search : ByteArray := prog_4_method_2_code
def yX2_search : MethodName := ⟨RX2, "search", "([LTrainBook$Train;I)V"⟩
abbrev cX2_reach : ByteArray := prog_4_method_3_code
def yX2_reach : MethodName := ⟨RX2, "reach", "(LTrainBook$RowSearch;II)Z"⟩
abbrev cX2_prepare : ByteArray := prog_4_method_4_code
def yX2_prepare : MethodName := ⟨RX2, "prepare", "([LTrainBook$Train;I)V"⟩
abbrev cX2_readStops : ByteArray := prog_4_method_5_code
def yX2_readStops : MethodName := ⟨RX2, "readStops", "(LTrainBook$Train;I)V"⟩
abbrev cX2_fillPair : ByteArray := prog_4_method_6_code
def yX2_fillPair : MethodName := ⟨RX2, "fillPair", "(ILTrainBook$Train;LTrainBook$Train;)V"⟩
abbrev cX2_openKnown : ByteArray := prog_4_method_7_code
def yX2_openKnown : MethodName := ⟨RX2, "openKnown", "(I)V"⟩
abbrev cX2_needOf : ByteArray := prog_4_method_8_code
def yX2_needOf : MethodName := ⟨RX2, "needOf", "(I)I"⟩
abbrev cX2_keep : ByteArray := prog_4_method_9_code
def yX2_keep : MethodName := ⟨RX2, "keep", "(II)V"⟩
abbrev cX2_placeOf : ByteArray := prog_4_method_10_code
def yX2_placeOf : MethodName := ⟨RX2, "placeOf", "(II)I"⟩
abbrev cX2_leastNeed : ByteArray := prog_4_method_11_code
def yX2_leastNeed : MethodName := ⟨RX2, "leastNeed", "(I)I"⟩
abbrev cX2_pairNeedAt : ByteArray := prog_4_method_12_code
def yX2_pairNeedAt : MethodName := ⟨RX2, "pairNeedAt", "(III)I"⟩
abbrev cX2_nextStations : ByteArray := prog_4_method_13_code
def yX2_nextStations : MethodName := ⟨RX2, "nextStations", "(I)I"⟩
abbrev cX2_passed : ByteArray := prog_4_method_14_code
def yX2_passed : MethodName := ⟨RX2, "passed", "(II)I"⟩
def RX3 : String := "TrainBook$SignBook"
def TX3 : u_T := fun k => match k with
  | _ => ("TrainBook$SignBook", "told", "[I", true)
def tyX3 : Nat → FieldType := fun k => match k with
  | _ => .array .int
abbrev wsX30 : List Cond := u_ws RX3 TX3 1
theorem nmX3 : ∀ a, a < 1 → ∀ b, b < 1 → a ≠ b → (TX3 a).2.1 ≠ (TX3 b).2.1 := by decide +kernel
theorem tyX3_ok : ∀ k, k < 1 → parseFieldDescriptor (TX3 k).2.2.1 = some (tyX3 k) := by decide +kernel
abbrev cX3_init : ByteArray := prog_5_method_1_code
def yX3_init : MethodName := ⟨RX3, "<init>", "()V"⟩
abbrev cX3_tell : ByteArray := prog_5_method_2_code
def yX3_tell : MethodName := ⟨RX3, "tell", "(II)V"⟩
abbrev cX3_fewestFor : ByteArray := prog_5_method_3_code
def yX3_fewestFor : MethodName := ⟨RX3, "fewestFor", "(I)I"⟩
abbrev cX3_unionOf : ByteArray := prog_5_method_4_code
def yX3_unionOf : MethodName := ⟨RX3, "unionOf", "(I)I"⟩
abbrev cX3_lesser : ByteArray := prog_5_method_5_code
def yX3_lesser : MethodName := ⟨RX3, "lesser", "(II)I"⟩
def RX4 : String := "TrainBook$Table"
def TX4 : u_T := fun k => match k with
  | 0 => ("TrainBook$Table", "member", "[LTrainBook$Train;", true)
  | 1 => ("TrainBook$Table", "number", "[I", true)
  | 2 => ("TrainBook$Table", "stopRow", "[I", true)
  | 3 => ("TrainBook$Table", "rows", "LTrainBook$RowSearch;", true)
  | 4 => ("TrainBook$Table", "columns", "LTrainBook$ColumnOrder;", true)
  | 5 => ("TrainBook$Table", "lanePlan", "LTrainBook$LanePlan;", true)
  | _ => ("TrainBook$Table", "members", "I", false)
def tyX4 : Nat → FieldType := fun k => match k with
  | 0 => .array (.object "TrainBook$Train")
  | 1 => .array .int
  | 2 => .array .int
  | 3 => .object "TrainBook$RowSearch"
  | 4 => .object "TrainBook$ColumnOrder"
  | 5 => .object "TrainBook$LanePlan"
  | _ => .int
abbrev wsX40 : List Cond := u_ws RX4 TX4 7
theorem nmX4 : ∀ a, a < 7 → ∀ b, b < 7 → a ≠ b → (TX4 a).2.1 ≠ (TX4 b).2.1 := by decide +kernel
theorem tyX4_ok : ∀ k, k < 7 → parseFieldDescriptor (TX4 k).2.2.1 = some (tyX4 k) := by decide +kernel
abbrev cX4_init : ByteArray := prog_6_method_1_code
def yX4_init : MethodName := ⟨RX4, "<init>", "()V"⟩
abbrev cX4_make : ByteArray := prog_6_method_2_code
def yX4_make : MethodName := ⟨RX4, "make", "([LTrainBook$Train;I)V"⟩
abbrev cX4_isMade : ByteArray := prog_6_method_3_code
def yX4_isMade : MethodName := ⟨RX4, "isMade", "()Z"⟩
abbrev cX4_rowCount : ByteArray := prog_6_method_4_code
def yX4_rowCount : MethodName := ⟨RX4, "rowCount", "()I"⟩
abbrev cX4_columnCount : ByteArray := prog_6_method_5_code
def yX4_columnCount : MethodName := ⟨RX4, "columnCount", "()I"⟩
abbrev cX4_hasRow : ByteArray := prog_6_method_6_code
def yX4_hasRow : MethodName := ⟨RX4, "hasRow", "(I)Z"⟩
abbrev cX4_hasColumn : ByteArray := prog_6_method_7_code
def yX4_hasColumn : MethodName := ⟨RX4, "hasColumn", "(I)Z"⟩
abbrev cX4_stationOf : ByteArray := prog_6_method_8_code
def yX4_stationOf : MethodName := ⟨RX4, "stationOf", "(I)I"⟩
abbrev cX4_trainOf : ByteArray := prog_6_method_9_code
def yX4_trainOf : MethodName := ⟨RX4, "trainOf", "(I)I"⟩
abbrev cX4_read : ByteArray := prog_6_method_10_code
def yX4_read : MethodName := ⟨RX4, "read", "(IIZ)I"⟩
abbrev cX4_countBreaches : ByteArray := prog_6_method_11_code
def yX4_countBreaches : MethodName := ⟨RX4, "countBreaches", "()I"⟩
abbrev cX4_countKnots : ByteArray := prog_6_method_12_code
def yX4_countKnots : MethodName := ⟨RX4, "countKnots", "()I"⟩
abbrev cX4_isBreach : ByteArray := prog_6_method_13_code
def yX4_isBreach : MethodName := ⟨RX4, "isBreach", "(II)Z"⟩
abbrev cX4_laneCount : ByteArray := prog_6_method_14_code
def yX4_laneCount : MethodName := ⟨RX4, "laneCount", "()I"⟩
abbrev cX4_laneOf : ByteArray := prog_6_method_15_code
def yX4_laneOf : MethodName := ⟨RX4, "laneOf", "(I)I"⟩
abbrev cX4_takeMembers : ByteArray := prog_6_method_16_code
def yX4_takeMembers : MethodName := ⟨RX4, "takeMembers", "([LTrainBook$Train;I)V"⟩
abbrev cX4_placeStops : ByteArray := prog_6_method_17_code
def yX4_placeStops : MethodName := ⟨RX4, "placeStops", "(I)V"⟩
abbrev cX4_firstRow : ByteArray := prog_6_method_18_code
def yX4_firstRow : MethodName := ⟨RX4, "firstRow", "(I)I"⟩
abbrev cX4_lastRow : ByteArray := prog_6_method_19_code
def yX4_lastRow : MethodName := ⟨RX4, "lastRow", "(I)I"⟩
abbrev cX4_planLanes : ByteArray := prog_6_method_20_code
def yX4_planLanes : MethodName := ⟨RX4, "planLanes", "()V"⟩
def RX5 : String := "TrainBook$Train"
def TX5 : u_T := fun k => match k with
  | 0 => ("TrainBook$Train", "onDays", "I", false)
  | 1 => ("TrainBook$Train", "stops", "I", false)
  | 2 => ("TrainBook$Train", "station", "[I", true)
  | 3 => ("TrainBook$Train", "comes", "[I", true)
  | 4 => ("TrainBook$Train", "goes", "[I", true)
  | _ => ("TrainBook$Train", "stopAt", "[I", true)
def tyX5 : Nat → FieldType := fun k => match k with
  | 0 => .int
  | 1 => .int
  | 2 => .array .int
  | 3 => .array .int
  | 4 => .array .int
  | _ => .array .int
abbrev wsX50 : List Cond := u_ws RX5 TX5 6
theorem nmX5 : ∀ a, a < 6 → ∀ b, b < 6 → a ≠ b → (TX5 a).2.1 ≠ (TX5 b).2.1 := by decide +kernel
theorem tyX5_ok : ∀ k, k < 6 → parseFieldDescriptor (TX5 k).2.2.1 = some (tyX5 k) := by decide +kernel
abbrev cX5_init : ByteArray := prog_7_method_1_code
def yX5_init : MethodName := ⟨RX5, "<init>", "()V"⟩
abbrev cX5_takes : ByteArray := prog_7_method_2_code
def yX5_takes : MethodName := ⟨RX5, "takes", "(III)Z"⟩
abbrev cX5_add : ByteArray := prog_7_method_3_code
def yX5_add : MethodName := ⟨RX5, "add", "(III)V"⟩
abbrev cX5_dropLast : ByteArray := prog_7_method_4_code
def yX5_dropLast : MethodName := ⟨RX5, "dropLast", "()V"⟩
abbrev cX5_staysInDay : ByteArray := prog_7_method_5_code
def yX5_staysInDay : MethodName := ⟨RX5, "staysInDay", "(I)Z"⟩
abbrev cX5_move : ByteArray := prog_7_method_6_code
def yX5_move : MethodName := ⟨RX5, "move", "(I)V"⟩
abbrev cX5_runsOn : ByteArray := prog_7_method_7_code
def yX5_runsOn : MethodName := ⟨RX5, "runsOn", "(I)Z"⟩
abbrev cX5_read : ByteArray := prog_7_method_8_code
def yX5_read : MethodName := ⟨RX5, "read", "(I)I"⟩
abbrev cX5_leaves : ByteArray := prog_7_method_9_code
def yX5_leaves : MethodName := ⟨RX5, "leaves", "(I)I"⟩
abbrev cX5_isAheadSomewhere : ByteArray := prog_7_method_10_code
def yX5_isAheadSomewhere : MethodName := ⟨RX5, "isAheadSomewhere", "(LTrainBook$Train;)Z"⟩
abbrev cX5_copy : ByteArray := prog_7_method_11_code
def yX5_copy : MethodName := ⟨RX5, "copy", "(LTrainBook$Train;)V"⟩
def RX6 : String := "TrainBook$WayFinder"
def TX6 : u_T := fun k => match k with
  | 0 => ("TrainBook$WayFinder", "trains", "[LTrainBook$Train;", false)
  | 1 => ("TrainBook$WayFinder", "count", "I", false)
  | 2 => ("TrainBook$WayFinder", "weekday", "I", false)
  | 3 => ("TrainBook$WayFinder", "wait", "I", false)
  | 4 => ("TrainBook$WayFinder", "arrives", "[I", true)
  | 5 => ("TrainBook$WayFinder", "lastBoard", "[I", true)
  | 6 => ("TrainBook$WayFinder", "soonest", "I", false)
  | 7 => ("TrainBook$WayFinder", "legs", "I", false)
  | 8 => ("TrainBook$WayFinder", "leg", "[I", true)
  | 9 => ("TrainBook$WayFinder", "legLimit", "[I", true)
  | 10 => ("TrainBook$WayFinder", "boards", "[I", true)
  | 11 => ("TrainBook$WayFinder", "leaves", "[I", true)
  | 12 => ("TrainBook$WayFinder", "minutes", "[I", true)
  | 13 => ("TrainBook$WayFinder", "minuteCount", "I", false)
  | 14 => ("TrainBook$WayFinder", "found", "[I", true)
  | _ => ("TrainBook$WayFinder", "foundCount", "I", false)
def tyX6 : Nat → FieldType := fun k => match k with
  | 0 => .array (.object "TrainBook$Train")
  | 1 => .int
  | 2 => .int
  | 3 => .int
  | 4 => .array .int
  | 5 => .array .int
  | 6 => .int
  | 7 => .int
  | 8 => .array .int
  | 9 => .array .int
  | 10 => .array .int
  | 11 => .array .int
  | 12 => .array .int
  | 13 => .int
  | 14 => .array .int
  | _ => .int
abbrev wsX60 : List Cond := u_ws RX6 TX6 16
theorem nmX6 : ∀ a, a < 16 → ∀ b, b < 16 → a ≠ b → (TX6 a).2.1 ≠ (TX6 b).2.1 := by decide +kernel
theorem tyX6_ok : ∀ k, k < 16 → parseFieldDescriptor (TX6 k).2.2.1 = some (tyX6 k) := by decide +kernel
abbrev cX6_init : ByteArray := prog_8_method_1_code
def yX6_init : MethodName := ⟨RX6, "<init>", "()V"⟩
abbrev cX6_setOut : ByteArray := prog_8_method_2_code
def yX6_setOut : MethodName := ⟨RX6, "setOut", "([LTrainBook$Train;III)V"⟩
abbrev cX6_findBest : ByteArray := prog_8_method_3_code
def yX6_findBest : MethodName := ⟨RX6, "findBest", "(III)Z"⟩
abbrev cX6_read : ByteArray := prog_8_method_4_code
def yX6_read : MethodName := ⟨RX6, "read", "(I)I"⟩
abbrev cX6_findDepartures : ByteArray := prog_8_method_5_code
def yX6_findDepartures : MethodName := ⟨RX6, "findDepartures", "(II)I"⟩
abbrev cX6_departureAt : ByteArray := prog_8_method_6_code
def yX6_departureAt : MethodName := ⟨RX6, "departureAt", "(I)I"⟩
abbrev cX6_readLeg : ByteArray := prog_8_method_7_code
def yX6_readLeg : MethodName := ⟨RX6, "readLeg", "(II)I"⟩
abbrev cX6_soonestAt : ByteArray := prog_8_method_8_code
def yX6_soonestAt : MethodName := ⟨RX6, "soonestAt", "(III)I"⟩
abbrev cX6_ride : ByteArray := prog_8_method_9_code
def yX6_ride : MethodName := ⟨RX6, "ride", "(LTrainBook$Train;)Z"⟩
abbrev cX6_countLegs : ByteArray := prog_8_method_10_code
def yX6_countLegs : MethodName := ⟨RX6, "countLegs", "(III)V"⟩
abbrev cX6_lastBoardTo : ByteArray := prog_8_method_11_code
def yX6_lastBoardTo : MethodName := ⟨RX6, "lastBoardTo", "(LTrainBook$Train;I)I"⟩
abbrev cX6_lastBoardBefore : ByteArray := prog_8_method_12_code
def yX6_lastBoardBefore : MethodName := ⟨RX6, "lastBoardBefore", "(LTrainBook$Train;I)I"⟩
abbrev cX6_canChange : ByteArray := prog_8_method_13_code
def yX6_canChange : MethodName := ⟨RX6, "canChange", "(LTrainBook$Train;ILTrainBook$Train;I)Z"⟩
abbrev cX6_firstTrain : ByteArray := prog_8_method_14_code
def yX6_firstTrain : MethodName := ⟨RX6, "firstTrain", "(II)I"⟩
abbrev cX6_chooseTrains : ByteArray := prog_8_method_15_code
def yX6_chooseTrains : MethodName := ⟨RX6, "chooseTrains", "(II)V"⟩
abbrev cX6_chooseTrain : ByteArray := prog_8_method_16_code
def yX6_chooseTrain : MethodName := ⟨RX6, "chooseTrain", "(I)V"⟩
abbrev cX6_firstBoard : ByteArray := prog_8_method_17_code
def yX6_firstBoard : MethodName := ⟨RX6, "firstBoard", "(LTrainBook$Train;ILTrainBook$Train;I)I"⟩
abbrev cX6_chooseStations : ByteArray := prog_8_method_18_code
def yX6_chooseStations : MethodName := ⟨RX6, "chooseStations", "(II)V"⟩
abbrev cX6_limitBefore : ByteArray := prog_8_method_19_code
def yX6_limitBefore : MethodName := ⟨RX6, "limitBefore", "(LTrainBook$Train;LTrainBook$Train;I)I"⟩
abbrev cX6_leastChange : ByteArray := prog_8_method_20_code
def yX6_leastChange : MethodName := ⟨RX6, "leastChange", "(I)I"⟩
abbrev cX6_collectMinutes : ByteArray := prog_8_method_21_code
def yX6_collectMinutes : MethodName := ⟨RX6, "collectMinutes", "(I)V"⟩
abbrev cX6_insertMinute : ByteArray := prog_8_method_22_code
def yX6_insertMinute : MethodName := ⟨RX6, "insertMinute", "(I)V"⟩
def RX7 : String := "TrainBook"
def TX7 : u_T := fun k => match k with
  | 0 => ("TrainBook", "trains", "[LTrainBook$Train;", true)
  | 1 => ("TrainBook", "signBook", "LTrainBook$SignBook;", true)
  | 2 => ("TrainBook", "sheet", "LTrainBook$Table;", true)
  | 3 => ("TrainBook", "finder", "LTrainBook$WayFinder;", true)
  | 4 => ("TrainBook", "trainCount", "I", false)
  | _ => ("TrainBook", "changeMinutes", "I", false)
def tyX7 : Nat → FieldType := fun k => match k with
  | 0 => .array (.object "TrainBook$Train")
  | 1 => .object "TrainBook$SignBook"
  | 2 => .object "TrainBook$Table"
  | 3 => .object "TrainBook$WayFinder"
  | 4 => .int
  | _ => .int
abbrev wsX70 : List Cond := u_ws RX7 TX7 6
theorem nmX7 : ∀ a, a < 6 → ∀ b, b < 6 → a ≠ b → (TX7 a).2.1 ≠ (TX7 b).2.1 := by decide +kernel
theorem tyX7_ok : ∀ k, k < 6 → parseFieldDescriptor (TX7 k).2.2.1 = some (tyX7 k) := by decide +kernel
abbrev cX7_init : ByteArray := prog_1_method_1_code
def yX7_init : MethodName := ⟨RX7, "<init>", "()V"⟩
abbrev cX7_train : ByteArray := prog_1_method_2_code
def yX7_train : MethodName := ⟨RX7, "train", "(I)I"⟩
abbrev cX7_stop : ByteArray := prog_1_method_3_code
def yX7_stop : MethodName := ⟨RX7, "stop", "(IIII)I"⟩
abbrev cX7_days : ByteArray := prog_1_method_4_code
def yX7_days : MethodName := ⟨RX7, "days", "(II)Z"⟩
abbrev cX7_cut : ByteArray := prog_1_method_5_code
def yX7_cut : MethodName := ⟨RX7, "cut", "(I)Z"⟩
abbrev cX7_shift : ByteArray := prog_1_method_6_code
def yX7_shift : MethodName := ⟨RX7, "shift", "(II)Z"⟩
abbrev cX7_sign : ByteArray := prog_1_method_7_code
def yX7_sign : MethodName := ⟨RX7, "sign", "(II)Z"⟩
abbrev cX7_change : ByteArray := prog_1_method_8_code
def yX7_change : MethodName := ⟨RX7, "change", "(I)Z"⟩
abbrev cX7_about : ByteArray := prog_1_method_9_code
def yX7_about : MethodName := ⟨RX7, "about", "(I)I"⟩
abbrev cX7_signs : ByteArray := prog_1_method_10_code
def yX7_signs : MethodName := ⟨RX7, "signs", "(II)I"⟩
abbrev cX7_table : ByteArray := prog_1_method_11_code
def yX7_table : MethodName := ⟨RX7, "table", "(I)I"⟩
abbrev cX7_row : ByteArray := prog_1_method_12_code
def yX7_row : MethodName := ⟨RX7, "row", "(I)I"⟩
abbrev cX7_column : ByteArray := prog_1_method_13_code
def yX7_column : MethodName := ⟨RX7, "column", "(I)I"⟩
abbrev cX7_cell : ByteArray := prog_1_method_14_code
def yX7_cell : MethodName := ⟨RX7, "cell", "(III)I"⟩
abbrev cX7_breaches : ByteArray := prog_1_method_15_code
def yX7_breaches : MethodName := ⟨RX7, "breaches", "(I)I"⟩
abbrev cX7_breach : ByteArray := prog_1_method_16_code
def yX7_breach : MethodName := ⟨RX7, "breach", "(II)I"⟩
abbrev cX7_lanes : ByteArray := prog_1_method_17_code
def yX7_lanes : MethodName := ⟨RX7, "lanes", "()I"⟩
abbrev cX7_lane : ByteArray := prog_1_method_18_code
def yX7_lane : MethodName := ⟨RX7, "lane", "(I)I"⟩
abbrev cX7_way : ByteArray := prog_1_method_19_code
def yX7_way : MethodName := ⟨RX7, "way", "(IIIII)I"⟩
abbrev cX7_departures : ByteArray := prog_1_method_20_code
def yX7_departures : MethodName := ⟨RX7, "departures", "(III)I"⟩
abbrev cX7_departure : ByteArray := prog_1_method_21_code
def yX7_departure : MethodName := ⟨RX7, "departure", "(IIII)I"⟩
abbrev cX7_areDays : ByteArray := prog_1_method_22_code
def yX7_areDays : MethodName := ⟨RX7, "areDays", "(I)Z"⟩
abbrev cX7_isStation : ByteArray := prog_1_method_23_code
def yX7_isStation : MethodName := ⟨RX7, "isStation", "(I)Z"⟩
abbrev cX7_canTravel : ByteArray := prog_1_method_24_code
def yX7_canTravel : MethodName := ⟨RX7, "canTravel", "(III)Z"⟩
abbrev cX7_trainOf : ByteArray := prog_1_method_25_code
def yX7_trainOf : MethodName := ⟨RX7, "trainOf", "(I)LTrainBook$Train;"⟩
abbrev cX7_aboutBook : ByteArray := prog_1_method_26_code
def yX7_aboutBook : MethodName := ⟨RX7, "aboutBook", "(I)I"⟩
abbrev cX7_canBeTable : ByteArray := prog_1_method_27_code
def yX7_canBeTable : MethodName := ⟨RX7, "canBeTable", "(I)Z"⟩
def RX8 : String := "TrainBookModel"
def TX8 : u_T := fun k => match k with
  | 0 => ("TrainBookModel", "told", "I", false)
  | 1 => ("TrainBookModel", "trains", "I", false)
  | 2 => ("TrainBookModel", "change", "I", false)
  | 3 => ("TrainBookModel", "days", "[I", true)
  | 4 => ("TrainBookModel", "stops", "[I", true)
  | 5 => ("TrainBookModel", "station", "[I", true)
  | 6 => ("TrainBookModel", "comes", "[I", true)
  | 7 => ("TrainBookModel", "goes", "[I", true)
  | 8 => ("TrainBookModel", "signSet", "[I", true)
  | 9 => ("TrainBookModel", "rows", "I", false)
  | 10 => ("TrainBookModel", "columns", "I", false)
  | 11 => ("TrainBookModel", "rowStation", "[I", true)
  | 12 => ("TrainBookModel", "own", "[I", true)
  | 13 => ("TrainBookModel", "ownStops", "[I", true)
  | 14 => ("TrainBookModel", "ownStation", "[I", true)
  | 15 => ("TrainBookModel", "ownComes", "[I", true)
  | 16 => ("TrainBookModel", "ownGoes", "[I", true)
  | 17 => ("TrainBookModel", "ownRow", "[I", true)
  | 18 => ("TrainBookModel", "column", "[I", true)
  | 19 => ("TrainBookModel", "lane", "[I", true)
  | 20 => ("TrainBookModel", "laneMany", "I", false)
  | 21 => ("TrainBookModel", "far", "[I", true)
  | 22 => ("TrainBookModel", "tried", "[I", true)
  | 23 => ("TrainBookModel", "reached", "[Z", true)
  | 24 => ("TrainBookModel", "goesOnWith", "[Z", true)
  | 25 => ("TrainBookModel", "legs", "I", false)
  | 26 => ("TrainBookModel", "soon", "I", false)
  | 27 => ("TrainBookModel", "legTrain", "[I", true)
  | 28 => ("TrainBookModel", "legFrom", "[I", true)
  | 29 => ("TrainBookModel", "legTo", "[I", true)
  | 30 => ("TrainBookModel", "here", "[Z", true)
  | 31 => ("TrainBookModel", "there", "[Z", true)
  | 32 => ("TrainBookModel", "left", "[Z", true)
  | 33 => ("TrainBookModel", "departs", "I", false)
  | _ => ("TrainBookModel", "minuteOf", "[I", true)
def tyX8 : Nat → FieldType := fun k => match k with
  | 0 => .int
  | 1 => .int
  | 2 => .int
  | 3 => .array .int
  | 4 => .array .int
  | 5 => .array .int
  | 6 => .array .int
  | 7 => .array .int
  | 8 => .array .int
  | 9 => .int
  | 10 => .int
  | 11 => .array .int
  | 12 => .array .int
  | 13 => .array .int
  | 14 => .array .int
  | 15 => .array .int
  | 16 => .array .int
  | 17 => .array .int
  | 18 => .array .int
  | 19 => .array .int
  | 20 => .int
  | 21 => .array .int
  | 22 => .array .int
  | 23 => .array .boolean
  | 24 => .array .boolean
  | 25 => .int
  | 26 => .int
  | 27 => .array .int
  | 28 => .array .int
  | 29 => .array .int
  | 30 => .array .boolean
  | 31 => .array .boolean
  | 32 => .array .boolean
  | 33 => .int
  | _ => .array .int
abbrev wsX80 : List Cond := u_ws RX8 TX8 35
theorem nmX8 : ∀ a, a < 35 → ∀ b, b < 35 → a ≠ b → (TX8 a).2.1 ≠ (TX8 b).2.1 := by decide +kernel
theorem tyX8_ok : ∀ k, k < 35 → parseFieldDescriptor (TX8 k).2.2.1 = some (tyX8 k) := by decide +kernel
abbrev cX8_init : ByteArray := prog_10_method_1_code
def yX8_init : MethodName := ⟨RX8, "<init>", "()V"⟩
abbrev cX8_isTrain : ByteArray := prog_10_method_3_code
def yX8_isTrain : MethodName := ⟨RX8, "isTrain", "(I)Z"⟩
abbrev cX8_isStation : ByteArray := prog_10_method_4_code
def yX8_isStation : MethodName := ⟨RX8, "isStation", "(I)Z"⟩
abbrev cX8_isMinute : ByteArray := prog_10_method_5_code
def yX8_isMinute : MethodName := ⟨RX8, "isMinute", "(I)Z"⟩
abbrev cX8_isDays : ByteArray := prog_10_method_6_code
def yX8_isDays : MethodName := ⟨RX8, "isDays", "(I)Z"⟩
abbrev cX8_train : ByteArray := prog_10_method_7_code
def yX8_train : MethodName := ⟨RX8, "train", "(I)I"⟩
abbrev cX8_stopAt : ByteArray := prog_10_method_8_code
def yX8_stopAt : MethodName := ⟨RX8, "stopAt", "(II)I"⟩
abbrev cX8_stop : ByteArray := prog_10_method_9_code
def yX8_stop : MethodName := ⟨RX8, "stop", "(IIII)I"⟩
abbrev cX8_days : ByteArray := prog_10_method_10_code
def yX8_days : MethodName := ⟨RX8, "days", "(II)Z"⟩
abbrev cX8_cut : ByteArray := prog_10_method_11_code
def yX8_cut : MethodName := ⟨RX8, "cut", "(I)Z"⟩
abbrev cX8_shift : ByteArray := prog_10_method_12_code
def yX8_shift : MethodName := ⟨RX8, "shift", "(II)Z"⟩
abbrev cX8_sign : ByteArray := prog_10_method_13_code
def yX8_sign : MethodName := ⟨RX8, "sign", "(II)Z"⟩
abbrev cX8_change : ByteArray := prog_10_method_14_code
def yX8_change : MethodName := ⟨RX8, "change", "(I)Z"⟩
abbrev cX8_about : ByteArray := prog_10_method_15_code
def yX8_about : MethodName := ⟨RX8, "about", "(I)I"⟩
abbrev cX8_ones : ByteArray := prog_10_method_16_code
def yX8_ones : MethodName := ⟨RX8, "ones", "(I)I"⟩
abbrev cX8_signs : ByteArray := prog_10_method_17_code
def yX8_signs : MethodName := ⟨RX8, "signs", "(II)I"⟩
abbrev cX8_digit : ByteArray := prog_10_method_18_code
def yX8_digit : MethodName := ⟨RX8, "digit", "(II)I"⟩
abbrev cX8_behind : ByteArray := prog_10_method_19_code
def yX8_behind : MethodName := ⟨RX8, "behind", "(II)I"⟩
abbrev cX8_isPlace : ByteArray := prog_10_method_20_code
def yX8_isPlace : MethodName := ⟨RX8, "isPlace", "(I)Z"⟩
abbrev cX8_findRows : ByteArray := prog_10_method_21_code
def yX8_findRows : MethodName := ⟨RX8, "findRows", "()V"⟩
abbrev cX8_leaves : ByteArray := prog_10_method_22_code
def yX8_leaves : MethodName := ⟨RX8, "leaves", "(II)I"⟩
abbrev cX8_isBreach : ByteArray := prog_10_method_23_code
def yX8_isBreach : MethodName := ⟨RX8, "isBreach", "(II)Z"⟩
abbrev cX8_breachesOf : ByteArray := prog_10_method_24_code
def yX8_breachesOf : MethodName := ⟨RX8, "breachesOf", "([I)I"⟩
abbrev cX8_goesOn : ByteArray := prog_10_method_25_code
def yX8_goesOn : MethodName := ⟨RX8, "goesOn", "()Z"⟩
abbrev cX8_swap : ByteArray := prog_10_method_26_code
def yX8_swap : MethodName := ⟨RX8, "swap", "(II)V"⟩
abbrev cX8_findColumns : ByteArray := prog_10_method_27_code
def yX8_findColumns : MethodName := ⟨RX8, "findColumns", "()V"⟩
abbrev cX8_first : ByteArray := prog_10_method_28_code
def yX8_first : MethodName := ⟨RX8, "first", "(I)I"⟩
abbrev cX8_last : ByteArray := prog_10_method_29_code
def yX8_last : MethodName := ⟨RX8, "last", "(I)I"⟩
abbrev cX8_findLanes : ByteArray := prog_10_method_30_code
def yX8_findLanes : MethodName := ⟨RX8, "findLanes", "()V"⟩
abbrev cX8_isFree : ByteArray := prog_10_method_31_code
def yX8_isFree : MethodName := ⟨RX8, "isFree", "(II)Z"⟩
abbrev cX8_table : ByteArray := prog_10_method_32_code
def yX8_table : MethodName := ⟨RX8, "table", "(I)I"⟩
abbrev cX8_row : ByteArray := prog_10_method_33_code
def yX8_row : MethodName := ⟨RX8, "row", "(I)I"⟩
abbrev cX8_isColumn : ByteArray := prog_10_method_34_code
def yX8_isColumn : MethodName := ⟨RX8, "isColumn", "(I)Z"⟩
abbrev cX8_column : ByteArray := prog_10_method_35_code
def yX8_column : MethodName := ⟨RX8, "column", "(I)I"⟩
abbrev cX8_cell : ByteArray := prog_10_method_36_code
def yX8_cell : MethodName := ⟨RX8, "cell", "(III)I"⟩
abbrev cX8_breaches : ByteArray := prog_10_method_37_code
def yX8_breaches : MethodName := ⟨RX8, "breaches", "(I)I"⟩
abbrev cX8_breach : ByteArray := prog_10_method_38_code
def yX8_breach : MethodName := ⟨RX8, "breach", "(II)I"⟩
abbrev cX8_lanes : ByteArray := prog_10_method_39_code
def yX8_lanes : MethodName := ⟨RX8, "lanes", "()I"⟩
abbrev cX8_lane : ByteArray := prog_10_method_40_code
def yX8_lane : MethodName := ⟨RX8, "lane", "(I)I"⟩
abbrev cX8_runs : ByteArray := prog_10_method_41_code
def yX8_runs : MethodName := ⟨RX8, "runs", "(II)Z"⟩
abbrev cX8_canChange : ByteArray := prog_10_method_42_code
def yX8_canChange : MethodName := ⟨RX8, "canChange", "(II)Z"⟩
abbrev cX8_isBoarded : ByteArray := prog_10_method_43_code
def yX8_isBoarded : MethodName := ⟨RX8, "isBoarded", "(IIII)Z"⟩
abbrev cX8_soonest : ByteArray := prog_10_method_44_code
def yX8_soonest : MethodName := ⟨RX8, "soonest", "(IIII)I"⟩
abbrev cX8_findRest : ByteArray := prog_10_method_45_code
def yX8_findRest : MethodName := ⟨RX8, "findRest", "(II)V"⟩
abbrev cX8_canGoOn : ByteArray := prog_10_method_46_code
def yX8_canGoOn : MethodName := ⟨RX8, "canGoOn", "(III)Z"⟩
abbrev cX8_canBoard : ByteArray := prog_10_method_47_code
def yX8_canBoard : MethodName := ⟨RX8, "canBoard", "(IZII)Z"⟩
abbrev cX8_leavesAt : ByteArray := prog_10_method_48_code
def yX8_leavesAt : MethodName := ⟨RX8, "leavesAt", "(IZIII)Z"⟩
abbrev cX8_firstTrain : ByteArray := prog_10_method_49_code
def yX8_firstTrain : MethodName := ⟨RX8, "firstTrain", "(ZIIII)I"⟩
abbrev cX8_finds : ByteArray := prog_10_method_50_code
def yX8_finds : MethodName := ⟨RX8, "finds", "(IIII)Z"⟩
abbrev cX8_boardOf : ByteArray := prog_10_method_51_code
def yX8_boardOf : MethodName := ⟨RX8, "boardOf", "(IIIII)I"⟩
abbrev cX8_restGoes : ByteArray := prog_10_method_52_code
def yX8_restGoes : MethodName := ⟨RX8, "restGoes", "(III)Z"⟩
abbrev cX8_way : ByteArray := prog_10_method_53_code
def yX8_way : MethodName := ⟨RX8, "way", "(IIIII)I"⟩
abbrev cX8_findDepartures : ByteArray := prog_10_method_54_code
def yX8_findDepartures : MethodName := ⟨RX8, "findDepartures", "(III)V"⟩
abbrev cX8_isGone : ByteArray := prog_10_method_55_code
def yX8_isGone : MethodName := ⟨RX8, "isGone", "(III)Z"⟩
abbrev cX8_canDepart : ByteArray := prog_10_method_56_code
def yX8_canDepart : MethodName := ⟨RX8, "canDepart", "(III)Z"⟩
abbrev cX8_departures : ByteArray := prog_10_method_57_code
def yX8_departures : MethodName := ⟨RX8, "departures", "(III)I"⟩
abbrev cX8_departure : ByteArray := prog_10_method_58_code
def yX8_departure : MethodName := ⟨RX8, "departure", "(IIII)I"⟩
def RJ6 : String := "java/lang/Integer"
def TJ6 : u_T := fun k => match k with
  | _ => ("", "", "", false)
def tyJ6 : Nat → FieldType := fun k => match k with
  | _ => .int
abbrev wsJ60 : List Cond := u_ws RJ6 TJ6 0
theorem nmJ6 : ∀ a, a < 0 → ∀ b, b < 0 → a ≠ b → (TJ6 a).2.1 ≠ (TJ6 b).2.1 := by decide +kernel
theorem tyJ6_ok : ∀ k, k < 0 → parseFieldDescriptor (TJ6 k).2.2.1 = some (tyJ6 k) := by decide +kernel
abbrev cJ6_bitCount_0f7a4 : ByteArray := prog_11_method_49_code
def yJ6_bitCount_0f7a4 : MethodName := ⟨RJ6, "bitCount", "(I)I"⟩
def RJ9 : String := "java/lang/Math"
def TJ9 : u_T := fun k => match k with
  | _ => ("", "", "", false)
def tyJ9 : Nat → FieldType := fun k => match k with
  | _ => .int
abbrev wsJ90 : List Cond := u_ws RJ9 TJ9 0
theorem nmJ9 : ∀ a, a < 0 → ∀ b, b < 0 → a ≠ b → (TJ9 a).2.1 ≠ (TJ9 b).2.1 := by decide +kernel
theorem tyJ9_ok : ∀ k, k < 0 → parseFieldDescriptor (TJ9 k).2.2.1 = some (tyJ9 k) := by decide +kernel
abbrev cJ9_max_7cf53 : ByteArray := prog_12_method_65_code
def yJ9_max_7cf53 : MethodName := ⟨RJ9, "max", "(II)I"⟩
abbrev cJ9_min_7cf53 : ByteArray := prog_12_method_69_code
def yJ9_min_7cf53 : MethodName := ⟨RJ9, "min", "(II)I"⟩
def RJ10 : String := "java/lang/System"
def TJ10 : u_T := fun k => match k with
  | _ => ("", "", "", false)
def tyJ10 : Nat → FieldType := fun k => match k with
  | _ => .int
abbrev wsJ100 : List Cond := u_ws RJ10 TJ10 0
theorem nmJ10 : ∀ a, a < 0 → ∀ b, b < 0 → a ≠ b → (TJ10 a).2.1 ≠ (TJ10 b).2.1 := by decide +kernel
theorem tyJ10_ok : ∀ k, k < 0 → parseFieldDescriptor (TJ10 k).2.2.1 = some (tyJ10 k) := by decide +kernel
def RJ7 : String := "java/util/Arrays"
def TJ7 : u_T := fun k => match k with
  | _ => ("", "", "", false)
def tyJ7 : Nat → FieldType := fun k => match k with
  | _ => .int
abbrev wsJ70 : List Cond := u_ws RJ7 TJ7 0
theorem nmJ7 : ∀ a, a < 0 → ∀ b, b < 0 → a ≠ b → (TJ7 a).2.1 ≠ (TJ7 b).2.1 := by decide +kernel
theorem tyJ7_ok : ∀ k, k < 0 → parseFieldDescriptor (TJ7 k).2.2.1 = some (tyJ7 k) := by decide +kernel
abbrev cJ7_fill_53178 : ByteArray := prog_14_method_103_code
def yJ7_fill_53178 : MethodName := ⟨RJ7, "fill", "([II)V"⟩
def RL : String := "TrainBookLaw"
abbrev cL_law : ByteArray := code
def yL_law : MethodName := ⟨RL, "law", "([I)Z"⟩
abbrev vwCl : List vw_C := [(RX0, TX0, 6), (RX1, TX1, 3), (RX2, TX2, 9), (RX3, TX3, 1), (RX4, TX4, 7), (RX5, TX5, 6), (RX6, TX6, 16), (RX7, TX7, 6), (RX8, TX8, 35)]
end
section
/-! PICTURES OF THE HEAP. qI: the ints (fields and elements) by cell and place; qR: references by cell and place, kinds and lengths of the cells, how many cells there are. Cells are counted from the law's own start. -/
abbrev qI : Type := Nat → Nat → Int32
abbrev qR : Type := (Nat → Nat → Option Nat) × (Nat → Nat × Nat) × Nat × Nat
abbrev qG : Type := Nat × va_G × ClassId × ClassId × ClassId
def qrf (b : Nat) (r : Option Nat) : Option Nat := r.map (fun k => b + k)
def qflds (ci : Nat) (i : Nat → Int32) (p : Nat → Option Nat) : List Value := match ci with
  | 0 => [va_rf (p 0), .int (i 1), .int (i 2), .int (i 3), va_rf (p 4), va_rf (p 5)]
  | 1 => [.int (i 0), va_rf (p 1), va_rf (p 2)]
  | 2 => [.int (i 0), va_rf (p 1), .int (i 2), .int (i 3), .int (i 4), va_rf (p 5), va_rf (p 6), va_rf (p 7), va_rf (p 8)]
  | 3 => [va_rf (p 0)]
  | 4 => [va_rf (p 0), va_rf (p 1), va_rf (p 2), va_rf (p 3), va_rf (p 4), va_rf (p 5), .int (i 6)]
  | 5 => [.int (i 0), .int (i 1), va_rf (p 2), va_rf (p 3), va_rf (p 4), va_rf (p 5)]
  | 6 => [va_rf (p 0), .int (i 1), .int (i 2), .int (i 3), va_rf (p 4), va_rf (p 5), .int (i 6), .int (i 7), va_rf (p 8), va_rf (p 9), va_rf (p 10), va_rf (p 11), va_rf (p 12), .int (i 13), va_rf (p 14), .int (i 15)]
  | 7 => [va_rf (p 0), va_rf (p 1), va_rf (p 2), va_rf (p 3), .int (i 4), .int (i 5)]
  | _ => [.int (i 0), .int (i 1), .int (i 2), va_rf (p 3), va_rf (p 4), va_rf (p 5), va_rf (p 6), va_rf (p 7), va_rf (p 8), .int (i 9), .int (i 10), va_rf (p 11), va_rf (p 12), va_rf (p 13), va_rf (p 14), va_rf (p 15), va_rf (p 16), va_rf (p 17), va_rf (p 18), va_rf (p 19), .int (i 20), va_rf (p 21), va_rf (p 22), va_rf (p 23), va_rf (p 24), .int (i 25), .int (i 26), va_rf (p 27), va_rf (p 28), va_rf (p 29), va_rf (p 30), va_rf (p 31), va_rf (p 32), .int (i 33), va_rf (p 34)]
/-- the kind that a reference in a place of a cell of a kind has -/
def qfk (c k : Nat) : Nat := match c, k with
  | 0, 0 => 9
  | 0, 4 => 9
  | 0, 5 => 9
  | 1, 1 => 9
  | 1, 2 => 9
  | 2, 1 => 9
  | 2, 5 => 9
  | 2, 6 => 9
  | 2, 7 => 9
  | 2, 8 => 9
  | 3, 0 => 9
  | 4, 0 => 11
  | 4, 1 => 9
  | 4, 2 => 9
  | 4, 3 => 2
  | 4, 4 => 0
  | 4, 5 => 1
  | 5, 2 => 9
  | 5, 3 => 9
  | 5, 4 => 9
  | 5, 5 => 9
  | 6, 0 => 11
  | 6, 4 => 9
  | 6, 5 => 9
  | 6, 8 => 9
  | 6, 9 => 9
  | 6, 10 => 9
  | 6, 11 => 9
  | 6, 12 => 9
  | 6, 14 => 9
  | 7, 0 => 11
  | 7, 1 => 3
  | 7, 2 => 4
  | 7, 3 => 6
  | 8, 3 => 9
  | 8, 4 => 9
  | 8, 5 => 9
  | 8, 6 => 9
  | 8, 7 => 9
  | 8, 8 => 9
  | 8, 11 => 9
  | 8, 12 => 9
  | 8, 13 => 9
  | 8, 14 => 9
  | 8, 15 => 9
  | 8, 16 => 9
  | 8, 17 => 9
  | 8, 18 => 9
  | 8, 19 => 9
  | 8, 21 => 9
  | 8, 22 => 9
  | 8, 23 => 10
  | 8, 24 => 10
  | 8, 27 => 9
  | 8, 28 => 9
  | 8, 29 => 9
  | 8, 30 => 10
  | 8, 31 => 10
  | 8, 32 => 10
  | 8, 34 => 9
  | 11, _ => 5
  | _, _ => 0
def qcell (G : qG) (I : qI) (R : qR) (a : Nat) : va_E := match (R.2.1 a).1 with
  | 9 => .inl (G.2.2.1, (R.2.1 a).2, .inl (I a))
  | 10 => .inl (G.2.2.2.1, (R.2.1 a).2, .inl (I a))
  | 11 => .inl (G.2.2.2.2, (R.2.1 a).2, .inr (.inr (.inr (.inr (fun j => qrf G.1 (R.1 a j))))))
  | ci => .inr (ci, qflds ci (I a) (fun j => qrf G.1 (R.1 a j)))
def qw (G : qG) (I : qI) (R : qR) : va_W := (List.range R.2.2.1).map (fun k => (G.1 + k, qcell G I R k))
def qRP (G : qG) (I : qI) (R : qR) (H : Heap) : Prop := va_P G.2.1 vwCl (qw G I R) H
def qA (G : qG) : Nat → Prop := fun q => G.1 ≤ q
def qtys (G : qG) : List (ClassId × FieldType) := [(G.2.2.1, .int), (G.2.2.2.1, .boolean), (G.2.2.2.2, .object RX5)]
theorem qw_at (G : qG) (I : qI) (R : qR) {k : Nat} (h : k < R.2.2.1) : (qw G I R)[k]? = some (G.1 + k, qcell G I R k) := by
  simp [qw, h]
theorem qw_of {G : qG} {I : qI} {R : qR} {k : Nat} {q : Nat × va_E} (h : (qw G I R)[k]? = some q) : k < R.2.2.1 ∧ q = (G.1 + k, qcell G I R k) := by
  have hl : k < R.2.2.1 := by
    have := (List.getElem?_eq_some_iff.mp h).1
    simpa [qw] using this
  rw [qw_at G I R hl] at h
  exact ⟨hl, (Option.some.inj h).symm⟩
theorem qD (G : qG) (I : qI) (R : qR) : va_D (qA G) (qw G I R) := by
  refine ⟨fun i j p q hp hq h => ?_, fun k q hq => ?_⟩
  · obtain ⟨-, rfl⟩ := qw_of hp
    obtain ⟨-, rfl⟩ := qw_of hq
    have h' : G.1 + i = G.1 + j := h
    omega
  · obtain ⟨-, rfl⟩ := qw_of hq
    exact Nat.le_add_right _ _
/-- one cell moved -/
theorem qw_set (G : qG) (I I' : qI) (R R' : qR) {k : Nat} (hn : R'.2.2.1 = R.2.2.1) (h : ∀ j, j ≠ k → qcell G I' R' j = qcell G I R j) : (qw G I R).set k (G.1 + k, qcell G I' R' k) = qw G I' R' := by
  apply List.ext_getElem?
  intro j
  rw [List.getElem?_set]
  by_cases hj : k = j
  · subst hj
    by_cases hl : k < R.2.2.1
    · rw [if_pos rfl, qw_at G I' R' (by omega)]
      simp [qw, hl]
    · simp [qw, hl, hn]
  · rw [if_neg hj]
    by_cases hl : j < R.2.2.1
    · rw [qw_at G I R hl, qw_at G I' R' (by omega), h j (fun e => hj e.symm)]
    · simp [qw, hl, hn]
/-- one cell more -/
theorem qw_push (G : qG) (I I' : qI) (R R' : qR) (hn : R'.2.2.1 = R.2.2.1 + 1) (h : ∀ j, j < R.2.2.1 → qcell G I' R' j = qcell G I R j) : qw G I R ++ [(G.1 + R.2.2.1, qcell G I' R' R.2.2.1)] = qw G I' R' := by
  unfold qw
  rw [hn, List.range_succ, List.map_append]
  refine congrArg (· ++ _) ?_
  exact List.map_congr_left (fun j hj => by rw [h j (List.mem_range.mp hj)])
/-! THE WORDS: of the tables' words those that stay -/
def wW : List Cond := lw_tbl.filter goodWord
theorem wW_in {w : Cond} (h : w ∈ lw_tbl) (hg : goodWord w = true) : w ∈ wW := List.mem_filter.mpr ⟨h, hg⟩
theorem wW_at (i : Nat) {w : Cond} (h : lw_tbl[i]? = some w) (hg : goodWord w = true) : w ∈ wW := wW_in (List.mem_of_getElem? h) hg
theorem wW_good : GoodIn wW wW := fun w h => ⟨h, good_of_word (List.mem_filter.mp h).2⟩
abbrev qM : Type := MethodName × ByteArray × Nat × Option FieldType
def qws (M : qM) : List Cond := .code M.1 M.2.1 M.2.2.1 M.2.2.2 :: wW
theorem qws_good {M : qM} (h : Cond.code M.1 M.2.1 M.2.2.1 M.2.2.2 ∈ wW) : GoodIn wW (qws M) := fun w hw => by
  rcases List.mem_cons.mp hw with rfl | hw
  · exact wW_good _ h
  · exact wW_good w hw
/-- what holds of the tables -/
def qNest : List Cond := lw_tbl.filter (fun w => match w with | .methodLinkNest .. => true | _ => false)
def qK (G : qG) (U : State) : Prop := va_K G.2.1 vwCl (qtys G) U ∧ (∀ w ∈ qNest, va_Nw w U) ∧ va_AO RX5 U
theorem qK.moved {G : qG} {u U : State} (hW : u.WarmedH U.vm) (h : qK G u) : qK G U := by
  refine ⟨va_K.moved hW.alike h.1, fun w hw => ?_, h.2.2.moved hW.alike⟩
  have h1 := h.2.1 w hw
  have h2 := (List.mem_filter.mp hw).2
  cases w <;> first | exact va_Nw.warmM hW h1 | (simp at h2)
theorem qK.same {G : qG} {u U : State} (hW : U.vm = u.vm) (h : qK G u) : qK G U := by
  refine ⟨va_K.moved (u := u) (by rw [hW]; exact Vm.Alike.refl _) h.1, fun w hw => ?_, h.2.2.moved (by rw [hW]; exact Vm.Alike.refl _)⟩
  have h1 := h.2.1 w hw
  have h2 := (List.mem_filter.mp hw).2
  cases w <;> first | exact va_Nw.same rfl hW.symm h1 | (simp at h2)
abbrev qZ : Type := Launch × qG × qM × List Value × (State → Prop) × Room × (Nat × Nat) × (List Frame → State → State → Prop)
abbrev zl (Z : qZ) : Launch := Z.1
abbrev zG (Z : qZ) : qG := Z.2.1
abbrev zM (Z : qZ) : qM := Z.2.2.1
abbrev zc (Z : qZ) : ByteArray := Z.2.2.1.2.1
abbrev zn (Z : qZ) : Nat := Z.2.2.1.2.2.1
abbrev zA (Z : qZ) : List Value := Z.2.2.2.1
abbrev zE (Z : qZ) : State → Prop := Z.2.2.2.2.1
abbrev zR (Z : qZ) : Room := Z.2.2.2.2.2.1
abbrev zN (Z : qZ) : Nat := Z.2.2.2.2.2.2.1.1
abbrev zS (Z : qZ) : Nat := Z.2.2.2.2.2.2.1.2
abbrev zQ (Z : qZ) : List Frame → State → State → Prop := Z.2.2.2.2.2.2.2
def qCX (Z : qZ) (p : Program) (s : State) (m : MethodId) (meth : Method) (c : Code) : Prop :=
  p.tables.exec = Jvm.exec ∧ c.code = zc Z ∧ meth.sig.returnType = (zM Z).2.2.2 ∧ c.maxLocals = zn Z ∧ s.vm.findClass (zM Z).1.cls = some m.cls ∧ (∀ w ∈ wW, w.before (zA Z).toArray s = true) ∧ meth.locks = false ∧ meth.name = (zM Z).1.name ∧ qK (zG Z) s ∧ s.heap.size = (zG Z).1 + zN Z ∧ zE Z s
/-- THE JUDGEMENT: at pc, with locals lv, stack st, heap picture (I, R), the machine comes to the method's end as Z has it -/
def AW (Z : qZ) (pc : Nat) (lv : List (Nat × Value)) (st : List Value) (I : qI) (R : qR) : Prop :=
  ∀ (p : Program) (e : Env) (s : State) (m : MethodId) (below : List Frame) (meth : Method) (c : Code) (H : Heap) (locs : List Loc) (ls : Array Slot), qCX Z p s m meth c → (qRP (zG Z) I R H ∧ zN Z ≤ R.2.2.1 ∧ zS Z ≤ R.2.2.2) → va_S (qA (zG Z)) s.heap H locs → lv_has ls (zn Z) lv →
    W p (zl Z) e (zR Z) s m (zA Z).toArray below meth c H locs (R.2.2.1 - zN Z) (R.2.2.2 - zS Z) (zQ Z below s) (F0 m pc ls st)
section AWR
variable {Z : qZ} {pc : Nat} {lv : List (Nat × Value)} {st : List Value} {I : qI} {R : qR}
theorem aw_sub (ks : List Nat) {lv' : List (Nat × Value)} (hl : lv_pick lv ks = lv') (h : AW Z pc lv' st I R) : AW Z pc lv st I R :=
  fun p e s m below meth c H locs ls C hR hS hv => h p e s m below meth c H locs ls C hR hS (lv_sub hv ks hl)
theorem aw_pc {pc' : Nat} (hp : pc = pc') (h : AW Z pc' lv st I R) : AW Z pc lv st I R := hp ▸ h
theorem aw_iconst {j : Int} {v : Int32} (hd : decode (zc Z) pc = .ok (.iconst j, 1)) (hv : Int32.ofInt j = v) (h : AW Z (pc + 1) lv (.int v :: st) I R) : AW Z pc lv st I R :=
  fun p e s m below meth c H locs ls C hR hS hw => lv_iconst C.1 C.2.1 hd hv (h p e s m below meth c H locs ls C hR hS hw)
theorem aw_bipush {j : Int} {v : Int32} (hd : decode (zc Z) pc = .ok (.bipush j, 2)) (hv : (Int8.ofInt j).toInt32 = v) (h : AW Z (pc + 2) lv (.int v :: st) I R) : AW Z pc lv st I R :=
  fun p e s m below meth c H locs ls C hR hS hw => lv_bipush C.1 C.2.1 hd hv (h p e s m below meth c H locs ls C hR hS hw)
theorem aw_sipush {j : Int} {v : Int32} (hd : decode (zc Z) pc = .ok (.sipush j, 3)) (hv : (Int16.ofInt j).toInt32 = v) (h : AW Z (pc + 3) lv (.int v :: st) I R) : AW Z pc lv st I R :=
  fun p e s m below meth c H locs ls C hR hS hw => lv_sipush C.1 C.2.1 hd hv (h p e s m below meth c H locs ls C hR hS hw)
theorem aw_lconst {j : Fin 2} {v : Int64} (hd : decode (zc Z) pc = .ok (.lconst j, 1)) (hv : Int64.ofNat (j : Nat) = v) (h : AW Z (pc + 1) lv (.long v :: st) I R) : AW Z pc lv st I R :=
  fun p e s m below meth c H locs ls C hR hS hw => lv_lconst C.1 C.2.1 hd hv (h p e s m below meth c H locs ls C hR hS hw)
theorem aw_ldc {own : String} {index : Nat} {v : Int32} (hw : Cond.constant own index v ∈ wW) (ho : (zM Z).1.cls = own) (hd : decode (zc Z) pc = .ok (.ldc index, 2)) (h : AW Z (pc + 2) lv (.int v :: st) I R) : AW Z pc lv st I R :=
  fun p e s m below meth c H locs ls C hR hS hv => lv_ldc C.1 C.2.1 C.2.2.2.2.1 (C.2.2.2.2.2.1 _ (ho ▸ hw)) hd (h p e s m below meth c H locs ls C hR hS hv)
theorem aw_ldcw {own : String} {index : Nat} {v : Int32} (hw : Cond.constant own index v ∈ wW) (ho : (zM Z).1.cls = own) (hd : decode (zc Z) pc = .ok (.ldc_w index, 3)) (h : AW Z (pc + 3) lv (.int v :: st) I R) : AW Z pc lv st I R :=
  fun p e s m below meth c H locs ls C hR hS hv => lv_ldcw C.1 C.2.1 C.2.2.2.2.1 (C.2.2.2.2.2.1 _ (ho ▸ hw)) hd (h p e s m below meth c H locs ls C hR hS hv)
theorem aw_ldc2 {own : String} {index : Nat} {v : Int64} (hw : Cond.constantLong own index v ∈ wW) (ho : (zM Z).1.cls = own) (hd : decode (zc Z) pc = .ok (.ldc2_w index, 3)) (h : AW Z (pc + 3) lv (.long v :: st) I R) : AW Z pc lv st I R :=
  fun p e s m below meth c H locs ls C hR hS hv => lv_ldc2 C.1 C.2.1 C.2.2.2.2.1 (C.2.2.2.2.2.1 _ (ho ▸ hw)) hd (h p e s m below meth c H locs ls C hR hS hv)
theorem aw_iload_n {j : Fin 4} {x : Int32} (hd : decode (zc Z) pc = .ok (.iload_n j, 1)) (q : Nat) {i : Nat} (hl : lv[q]? = some (i, .int x)) (hi : (j : Nat) = i) (h : AW Z (pc + 1) lv (.int x :: st) I R) : AW Z pc lv st I R :=
  fun p e s m below meth c H locs ls C hR hS hv => lv_iload_n C.1 C.2.1 hd hi (lv_at hv q hl) (h p e s m below meth c H locs ls C hR hS hv)
theorem aw_iload {i : Nat} {x : Int32} (hd : decode (zc Z) pc = .ok (.iload i, 2)) (q : Nat) (hl : lv[q]? = some (i, .int x)) (h : AW Z (pc + 2) lv (.int x :: st) I R) : AW Z pc lv st I R :=
  fun p e s m below meth c H locs ls C hR hS hv => lv_iload C.1 C.2.1 hd (lv_at hv q hl) (h p e s m below meth c H locs ls C hR hS hv)
theorem aw_lload_n {j : Fin 4} {x : Int64} (hd : decode (zc Z) pc = .ok (.lload_n j, 1)) (q : Nat) {i : Nat} (hl : lv[q]? = some (i, .long x)) (hi : (j : Nat) = i) (h : AW Z (pc + 1) lv (.long x :: st) I R) : AW Z pc lv st I R :=
  fun p e s m below meth c H locs ls C hR hS hv => lv_lload_n C.1 C.2.1 hd hi (lv_at hv q hl) (h p e s m below meth c H locs ls C hR hS hv)
theorem aw_lload {i : Nat} {x : Int64} (hd : decode (zc Z) pc = .ok (.lload i, 2)) (q : Nat) (hl : lv[q]? = some (i, .long x)) (h : AW Z (pc + 2) lv (.long x :: st) I R) : AW Z pc lv st I R :=
  fun p e s m below meth c H locs ls C hR hS hv => lv_lload C.1 C.2.1 hd (lv_at hv q hl) (h p e s m below meth c H locs ls C hR hS hv)
theorem aw_aload_n {j : Fin 4} {x : Nat} (hd : decode (zc Z) pc = .ok (.aload_n j, 1)) (q : Nat) {i : Nat} (hl : lv[q]? = some (i, .ref x)) (hi : (j : Nat) = i) (h : AW Z (pc + 1) lv (.ref x :: st) I R) : AW Z pc lv st I R :=
  fun p e s m below meth c H locs ls C hR hS hv => lv_aload_n C.1 C.2.1 hd hi (lv_at hv q hl) (h p e s m below meth c H locs ls C hR hS hv)
theorem aw_aload {i : Nat} {x : Nat} (hd : decode (zc Z) pc = .ok (.aload i, 2)) (q : Nat) (hl : lv[q]? = some (i, .ref x)) (h : AW Z (pc + 2) lv (.ref x :: st) I R) : AW Z pc lv st I R :=
  fun p e s m below meth c H locs ls C hR hS hv => lv_aload C.1 C.2.1 hd (lv_at hv q hl) (h p e s m below meth c H locs ls C hR hS hv)
theorem aw_aload_nN {j : Fin 4} (hd : decode (zc Z) pc = .ok (.aload_n j, 1)) (q : Nat) {i : Nat} (hl : lv[q]? = some (i, .null)) (hi : (j : Nat) = i) (h : AW Z (pc + 1) lv (.null :: st) I R) : AW Z pc lv st I R :=
  fun p e s m below meth c H locs ls C hR hS hv => lv_aload_nN C.1 C.2.1 hd hi (lv_at hv q hl) (h p e s m below meth c H locs ls C hR hS hv)
theorem aw_istore_n {j : Fin 4} {i : Nat} {x : Int32} {lv' : List (Nat × Value)} (hd : decode (zc Z) pc = .ok (.istore_n j, 1)) (hi : (j : Nat) = i) (hn : i < zn Z) (hl : (i, Value.int x) :: lv.filter (fun q => !(q.1 == i) && !(q.1 + 1 == i && q.2.category == 2)) = lv') (h : AW Z (pc + 1) lv' st I R) : AW Z pc lv (.int x :: st) I R :=
  fun p e s m below meth c H locs ls C hR hS hv => lv_istore_n C.1 C.2.1 hd hi hv hn hl (fun ls hv => h p e s m below meth c H locs ls C hR hS hv)
theorem aw_istore {i : Nat} {x : Int32} {lv' : List (Nat × Value)} (hd : decode (zc Z) pc = .ok (.istore i, 2)) (hn : i < zn Z) (hl : (i, Value.int x) :: lv.filter (fun q => !(q.1 == i) && !(q.1 + 1 == i && q.2.category == 2)) = lv') (h : AW Z (pc + 2) lv' st I R) : AW Z pc lv (.int x :: st) I R :=
  fun p e s m below meth c H locs ls C hR hS hv => lv_istore C.1 C.2.1 hd hv hn hl (fun ls hv => h p e s m below meth c H locs ls C hR hS hv)
theorem aw_lstore_n {j : Fin 4} {i : Nat} {x : Int64} {lv' : List (Nat × Value)} (hd : decode (zc Z) pc = .ok (.lstore_n j, 1)) (hi : (j : Nat) = i) (hn : i + 1 < zn Z) (hl : (i, Value.long x) :: lv.filter (fun q => !(q.1 == i) && (!(q.1 == i + 1) && !(q.1 + 1 == i && q.2.category == 2))) = lv') (h : AW Z (pc + 1) lv' st I R) : AW Z pc lv (.long x :: st) I R :=
  fun p e s m below meth c H locs ls C hR hS hv => lv_lstore_n C.1 C.2.1 hd hi hv hn hl (fun ls hv => h p e s m below meth c H locs ls C hR hS hv)
theorem aw_lstore {i : Nat} {x : Int64} {lv' : List (Nat × Value)} (hd : decode (zc Z) pc = .ok (.lstore i, 2)) (hn : i + 1 < zn Z) (hl : (i, Value.long x) :: lv.filter (fun q => !(q.1 == i) && (!(q.1 == i + 1) && !(q.1 + 1 == i && q.2.category == 2))) = lv') (h : AW Z (pc + 2) lv' st I R) : AW Z pc lv (.long x :: st) I R :=
  fun p e s m below meth c H locs ls C hR hS hv => lv_lstore C.1 C.2.1 hd hv hn hl (fun ls hv => h p e s m below meth c H locs ls C hR hS hv)
theorem aw_astore_n {j : Fin 4} {i : Nat} {x : Nat} {lv' : List (Nat × Value)} (hd : decode (zc Z) pc = .ok (.astore_n j, 1)) (hi : (j : Nat) = i) (hn : i < zn Z) (hl : (i, Value.ref x) :: lv.filter (fun q => !(q.1 == i) && !(q.1 + 1 == i && q.2.category == 2)) = lv') (h : AW Z (pc + 1) lv' st I R) : AW Z pc lv (.ref x :: st) I R :=
  fun p e s m below meth c H locs ls C hR hS hv => lv_astore_n C.1 C.2.1 hd hi hv hn hl (fun ls hv => h p e s m below meth c H locs ls C hR hS hv)
theorem aw_astore {i : Nat} {x : Nat} {lv' : List (Nat × Value)} (hd : decode (zc Z) pc = .ok (.astore i, 2)) (hn : i < zn Z) (hl : (i, Value.ref x) :: lv.filter (fun q => !(q.1 == i) && !(q.1 + 1 == i && q.2.category == 2)) = lv') (h : AW Z (pc + 2) lv' st I R) : AW Z pc lv (.ref x :: st) I R :=
  fun p e s m below meth c H locs ls C hR hS hv => lv_astore C.1 C.2.1 hd hv hn hl (fun ls hv => h p e s m below meth c H locs ls C hR hS hv)
theorem aw_astore_nN {j : Fin 4} {i : Nat} {lv' : List (Nat × Value)} (hd : decode (zc Z) pc = .ok (.astore_n j, 1)) (hi : (j : Nat) = i) (hn : i < zn Z) (hl : (i, Value.null) :: lv.filter (fun q => !(q.1 == i) && !(q.1 + 1 == i && q.2.category == 2)) = lv') (h : AW Z (pc + 1) lv' st I R) : AW Z pc lv (.null :: st) I R :=
  fun p e s m below meth c H locs ls C hR hS hv => lv_astore_nN C.1 C.2.1 hd hi hv hn hl (fun ls hv => h p e s m below meth c H locs ls C hR hS hv)
theorem aw_iinc {i q : Nat} {j : Int} {x v : Int32} {lv' : List (Nat × Value)} (hd : decode (zc Z) pc = .ok (.iinc i j, 3)) (hk : lv[q]? = some (i, .int x)) (hv : x + Int32.ofInt j = v) (hn : i < zn Z) (hl : (i, Value.int v) :: lv.filter (fun q => !(q.1 == i) && !(q.1 + 1 == i && q.2.category == 2)) = lv') (h : AW Z (pc + 3) lv' st I R) : AW Z pc lv st I R :=
  fun p e s m below meth c H locs ls C hR hS hw => lv_iinc C.1 C.2.1 hd hw hk hv hn hl (fun ls hv => h p e s m below meth c H locs ls C hR hS hv)
theorem aw_iadd {x y : Int32} (hd : decode (zc Z) pc = .ok (.iadd, 1)) (h : AW Z (pc + 1) lv (.int (x + y) :: st) I R) : AW Z pc lv (.int y :: .int x :: st) I R :=
  fun p e s m below meth c H locs ls C hR hS hv => lv_iadd C.1 C.2.1 hd (h p e s m below meth c H locs ls C hR hS hv)
theorem aw_isub {x y : Int32} (hd : decode (zc Z) pc = .ok (.isub, 1)) (h : AW Z (pc + 1) lv (.int (x - y) :: st) I R) : AW Z pc lv (.int y :: .int x :: st) I R :=
  fun p e s m below meth c H locs ls C hR hS hv => lv_isub C.1 C.2.1 hd (h p e s m below meth c H locs ls C hR hS hv)
theorem aw_imul {x y : Int32} (hd : decode (zc Z) pc = .ok (.imul, 1)) (h : AW Z (pc + 1) lv (.int (x * y) :: st) I R) : AW Z pc lv (.int y :: .int x :: st) I R :=
  fun p e s m below meth c H locs ls C hR hS hv => lv_imul C.1 C.2.1 hd (h p e s m below meth c H locs ls C hR hS hv)
theorem aw_iand {x y : Int32} (hd : decode (zc Z) pc = .ok (.iand, 1)) (h : AW Z (pc + 1) lv (.int (x &&& y) :: st) I R) : AW Z pc lv (.int y :: .int x :: st) I R :=
  fun p e s m below meth c H locs ls C hR hS hv => lv_iand C.1 C.2.1 hd (h p e s m below meth c H locs ls C hR hS hv)
theorem aw_ior {x y : Int32} (hd : decode (zc Z) pc = .ok (.ior, 1)) (h : AW Z (pc + 1) lv (.int (x ||| y) :: st) I R) : AW Z pc lv (.int y :: .int x :: st) I R :=
  fun p e s m below meth c H locs ls C hR hS hv => lv_ior C.1 C.2.1 hd (h p e s m below meth c H locs ls C hR hS hv)
theorem aw_ixor {x y : Int32} (hd : decode (zc Z) pc = .ok (.ixor, 1)) (h : AW Z (pc + 1) lv (.int (x ^^^ y) :: st) I R) : AW Z pc lv (.int y :: .int x :: st) I R :=
  fun p e s m below meth c H locs ls C hR hS hv => lv_ixor C.1 C.2.1 hd (h p e s m below meth c H locs ls C hR hS hv)
theorem aw_ishl {x y : Int32} (hd : decode (zc Z) pc = .ok (.ishl, 1)) (h : AW Z (pc + 1) lv (.int (x <<< (y &&& 31)) :: st) I R) : AW Z pc lv (.int y :: .int x :: st) I R :=
  fun p e s m below meth c H locs ls C hR hS hv => lv_ishl C.1 C.2.1 hd (h p e s m below meth c H locs ls C hR hS hv)
theorem aw_ishr {x y : Int32} (hd : decode (zc Z) pc = .ok (.ishr, 1)) (h : AW Z (pc + 1) lv (.int (x >>> (y &&& 31)) :: st) I R) : AW Z pc lv (.int y :: .int x :: st) I R :=
  fun p e s m below meth c H locs ls C hR hS hv => lv_ishr C.1 C.2.1 hd (h p e s m below meth c H locs ls C hR hS hv)
theorem aw_iushr {x y : Int32} (hd : decode (zc Z) pc = .ok (.iushr, 1)) (h : AW Z (pc + 1) lv (.int ((x.toUInt32 >>> (y.toUInt32 &&& Int32.toUInt32 31)).toInt32) :: st) I R) : AW Z pc lv (.int y :: .int x :: st) I R :=
  fun p e s m below meth c H locs ls C hR hS hv => lv_iushr C.1 C.2.1 hd rfl (h p e s m below meth c H locs ls C hR hS hv)
theorem aw_idiv {x y : Int32} (hd : decode (zc Z) pc = .ok (.idiv, 1)) (hy : ¬ y = 0) (h : AW Z (pc + 1) lv (.int (x / y) :: st) I R) : AW Z pc lv (.int y :: .int x :: st) I R :=
  fun p e s m below meth c H locs ls C hR hS hv => lv_idiv C.1 C.2.1 hd hy (h p e s m below meth c H locs ls C hR hS hv)
theorem aw_irem {x y : Int32} (hd : decode (zc Z) pc = .ok (.irem, 1)) (hy : ¬ y = 0) (h : AW Z (pc + 1) lv (.int (x - x / y * y) :: st) I R) : AW Z pc lv (.int y :: .int x :: st) I R :=
  fun p e s m below meth c H locs ls C hR hS hv => lv_irem C.1 C.2.1 hd hy (h p e s m below meth c H locs ls C hR hS hv)
theorem aw_ladd {x y : Int64} (hd : decode (zc Z) pc = .ok (.ladd, 1)) (h : AW Z (pc + 1) lv (.long (x + y) :: st) I R) : AW Z pc lv (.long y :: .long x :: st) I R :=
  fun p e s m below meth c H locs ls C hR hS hv => lv_ladd C.1 C.2.1 hd (h p e s m below meth c H locs ls C hR hS hv)
theorem aw_i2l {x : Int32} (hd : decode (zc Z) pc = .ok (.i2l, 1)) (h : AW Z (pc + 1) lv (.long x.toInt64 :: st) I R) : AW Z pc lv (.int x :: st) I R :=
  fun p e s m below meth c H locs ls C hR hS hv => lv_i2l C.1 C.2.1 hd rfl (h p e s m below meth c H locs ls C hR hS hv)
theorem aw_dup {va : Value} (hd : decode (zc Z) pc = .ok (.dup, 1)) (hc : va.category = 1) (h : AW Z (pc + 1) lv (va :: va :: st) I R) : AW Z pc lv (va :: st) I R :=
  fun p e s m below meth c H locs ls C hR hS hv => lv_dup C.1 C.2.1 hd hc (h p e s m below meth c H locs ls C hR hS hv)
theorem aw_dup2 {va vb : Value} (hd : decode (zc Z) pc = .ok (.dup2, 1)) (hc : va.category = 1) (hc2 : vb.category = 1) (h : AW Z (pc + 1) lv (va :: vb :: va :: vb :: st) I R) : AW Z pc lv (va :: vb :: st) I R :=
  fun p e s m below meth c H locs ls C hR hS hv => lv_dup2_11 C.1 C.2.1 hd hc hc2 (h p e s m below meth c H locs ls C hR hS hv)
theorem aw_if_eq {x : Int32} {off : Int} {tgt : Nat} (hd : decode (zc Z) pc = .ok (.ifCond .eq off, 3)) (ht : (pc : Int) + off = (tgt : Int)) (h1 : x = 0 → AW Z tgt lv st I R) (h2 : ¬ x = 0 → AW Z (pc + 3) lv st I R) : AW Z pc lv (.int x :: st) I R :=
  fun p e s m below meth c H locs ls C hR hS hv => lv_if_eq C.1 C.2.1 hd ht (fun q => h1 q p e s m below meth c H locs ls C hR hS hv) (fun q => h2 q p e s m below meth c H locs ls C hR hS hv)
theorem aw_icmp_eq {x y : Int32} {off : Int} {tgt : Nat} (hd : decode (zc Z) pc = .ok (.if_icmp .eq off, 3)) (ht : (pc : Int) + off = (tgt : Int)) (h1 : x = y → AW Z tgt lv st I R) (h2 : ¬ x = y → AW Z (pc + 3) lv st I R) : AW Z pc lv (.int y :: .int x :: st) I R :=
  fun p e s m below meth c H locs ls C hR hS hv => lv_icmp_eq C.1 C.2.1 hd ht (fun q => h1 q p e s m below meth c H locs ls C hR hS hv) (fun q => h2 q p e s m below meth c H locs ls C hR hS hv)
theorem aw_if_ne {x : Int32} {off : Int} {tgt : Nat} (hd : decode (zc Z) pc = .ok (.ifCond .ne off, 3)) (ht : (pc : Int) + off = (tgt : Int)) (h1 : ¬ x = 0 → AW Z tgt lv st I R) (h2 : x = 0 → AW Z (pc + 3) lv st I R) : AW Z pc lv (.int x :: st) I R :=
  fun p e s m below meth c H locs ls C hR hS hv => lv_if_ne C.1 C.2.1 hd ht (fun q => h1 q p e s m below meth c H locs ls C hR hS hv) (fun q => h2 q p e s m below meth c H locs ls C hR hS hv)
theorem aw_icmp_ne {x y : Int32} {off : Int} {tgt : Nat} (hd : decode (zc Z) pc = .ok (.if_icmp .ne off, 3)) (ht : (pc : Int) + off = (tgt : Int)) (h1 : ¬ x = y → AW Z tgt lv st I R) (h2 : x = y → AW Z (pc + 3) lv st I R) : AW Z pc lv (.int y :: .int x :: st) I R :=
  fun p e s m below meth c H locs ls C hR hS hv => lv_icmp_ne C.1 C.2.1 hd ht (fun q => h1 q p e s m below meth c H locs ls C hR hS hv) (fun q => h2 q p e s m below meth c H locs ls C hR hS hv)
theorem aw_if_lt {x : Int32} {off : Int} {tgt : Nat} (hd : decode (zc Z) pc = .ok (.ifCond .lt off, 3)) (ht : (pc : Int) + off = (tgt : Int)) (h1 : x < 0 → AW Z tgt lv st I R) (h2 : ¬ x < 0 → AW Z (pc + 3) lv st I R) : AW Z pc lv (.int x :: st) I R :=
  fun p e s m below meth c H locs ls C hR hS hv => lv_if_lt C.1 C.2.1 hd ht (fun q => h1 q p e s m below meth c H locs ls C hR hS hv) (fun q => h2 q p e s m below meth c H locs ls C hR hS hv)
theorem aw_icmp_lt {x y : Int32} {off : Int} {tgt : Nat} (hd : decode (zc Z) pc = .ok (.if_icmp .lt off, 3)) (ht : (pc : Int) + off = (tgt : Int)) (h1 : x < y → AW Z tgt lv st I R) (h2 : ¬ x < y → AW Z (pc + 3) lv st I R) : AW Z pc lv (.int y :: .int x :: st) I R :=
  fun p e s m below meth c H locs ls C hR hS hv => lv_icmp_lt C.1 C.2.1 hd ht (fun q => h1 q p e s m below meth c H locs ls C hR hS hv) (fun q => h2 q p e s m below meth c H locs ls C hR hS hv)
theorem aw_if_ge {x : Int32} {off : Int} {tgt : Nat} (hd : decode (zc Z) pc = .ok (.ifCond .ge off, 3)) (ht : (pc : Int) + off = (tgt : Int)) (h1 : 0 ≤ x → AW Z tgt lv st I R) (h2 : ¬ 0 ≤ x → AW Z (pc + 3) lv st I R) : AW Z pc lv (.int x :: st) I R :=
  fun p e s m below meth c H locs ls C hR hS hv => lv_if_ge C.1 C.2.1 hd ht (fun q => h1 q p e s m below meth c H locs ls C hR hS hv) (fun q => h2 q p e s m below meth c H locs ls C hR hS hv)
theorem aw_icmp_ge {x y : Int32} {off : Int} {tgt : Nat} (hd : decode (zc Z) pc = .ok (.if_icmp .ge off, 3)) (ht : (pc : Int) + off = (tgt : Int)) (h1 : y ≤ x → AW Z tgt lv st I R) (h2 : ¬ y ≤ x → AW Z (pc + 3) lv st I R) : AW Z pc lv (.int y :: .int x :: st) I R :=
  fun p e s m below meth c H locs ls C hR hS hv => lv_icmp_ge C.1 C.2.1 hd ht (fun q => h1 q p e s m below meth c H locs ls C hR hS hv) (fun q => h2 q p e s m below meth c H locs ls C hR hS hv)
theorem aw_if_gt {x : Int32} {off : Int} {tgt : Nat} (hd : decode (zc Z) pc = .ok (.ifCond .gt off, 3)) (ht : (pc : Int) + off = (tgt : Int)) (h1 : 0 < x → AW Z tgt lv st I R) (h2 : ¬ 0 < x → AW Z (pc + 3) lv st I R) : AW Z pc lv (.int x :: st) I R :=
  fun p e s m below meth c H locs ls C hR hS hv => lv_if_gt C.1 C.2.1 hd ht (fun q => h1 q p e s m below meth c H locs ls C hR hS hv) (fun q => h2 q p e s m below meth c H locs ls C hR hS hv)
theorem aw_icmp_gt {x y : Int32} {off : Int} {tgt : Nat} (hd : decode (zc Z) pc = .ok (.if_icmp .gt off, 3)) (ht : (pc : Int) + off = (tgt : Int)) (h1 : y < x → AW Z tgt lv st I R) (h2 : ¬ y < x → AW Z (pc + 3) lv st I R) : AW Z pc lv (.int y :: .int x :: st) I R :=
  fun p e s m below meth c H locs ls C hR hS hv => lv_icmp_gt C.1 C.2.1 hd ht (fun q => h1 q p e s m below meth c H locs ls C hR hS hv) (fun q => h2 q p e s m below meth c H locs ls C hR hS hv)
theorem aw_if_le {x : Int32} {off : Int} {tgt : Nat} (hd : decode (zc Z) pc = .ok (.ifCond .le off, 3)) (ht : (pc : Int) + off = (tgt : Int)) (h1 : x ≤ 0 → AW Z tgt lv st I R) (h2 : ¬ x ≤ 0 → AW Z (pc + 3) lv st I R) : AW Z pc lv (.int x :: st) I R :=
  fun p e s m below meth c H locs ls C hR hS hv => lv_if_le C.1 C.2.1 hd ht (fun q => h1 q p e s m below meth c H locs ls C hR hS hv) (fun q => h2 q p e s m below meth c H locs ls C hR hS hv)
theorem aw_icmp_le {x y : Int32} {off : Int} {tgt : Nat} (hd : decode (zc Z) pc = .ok (.if_icmp .le off, 3)) (ht : (pc : Int) + off = (tgt : Int)) (h1 : x ≤ y → AW Z tgt lv st I R) (h2 : ¬ x ≤ y → AW Z (pc + 3) lv st I R) : AW Z pc lv (.int y :: .int x :: st) I R :=
  fun p e s m below meth c H locs ls C hR hS hv => lv_icmp_le C.1 C.2.1 hd ht (fun q => h1 q p e s m below meth c H locs ls C hR hS hv) (fun q => h2 q p e s m below meth c H locs ls C hR hS hv)
theorem aw_goto {off : Int} {tgt : Nat} (hd : decode (zc Z) pc = .ok (.goto off, 3)) (ht : (pc : Int) + off = (tgt : Int)) (h : AW Z tgt lv st I R) : AW Z pc lv st I R :=
  fun p e s m below meth c H locs ls C hR hS hv => lv_goto C.1 C.2.1 hd ht (h p e s m below meth c H locs ls C hR hS hv)
theorem aw_lcmp {x y : Int64} (hd : decode (zc Z) pc = .ok (.lcmp, 1)) (h : AW Z (pc + 1) lv (.int (lg_cmp x y) :: st) I R) : AW Z pc lv (.long y :: .long x :: st) I R :=
  fun p e s m below meth c H locs ls C hR hS hv => W.lcmp C.1 C.2.1 hd (h p e s m below meth c H locs ls C hR hS hv)
theorem aw_null (hd : decode (zc Z) pc = .ok (.aconst_null, 1)) (h : AW Z (pc + 1) lv (.null :: st) I R) : AW Z pc lv st I R :=
  fun p e s m below meth c H locs ls C hR hS hv => lv_null C.1 C.2.1 hd (h p e s m below meth c H locs ls C hR hS hv)
theorem aw_ifnull {x : Nat} {off : Int} (hd : decode (zc Z) pc = .ok (.ifnull off, 3)) (h : AW Z (pc + 3) lv st I R) : AW Z pc lv (.ref x :: st) I R :=
  fun p e s m below meth c H locs ls C hR hS hv => lv_ifnull C.1 C.2.1 hd (h p e s m below meth c H locs ls C hR hS hv)
theorem aw_ifnullN {off : Int} {tgt : Nat} (hd : decode (zc Z) pc = .ok (.ifnull off, 3)) (ht : (pc : Int) + off = (tgt : Int)) (h : AW Z tgt lv st I R) : AW Z pc lv (.null :: st) I R :=
  fun p e s m below meth c H locs ls C hR hS hv => lv_ifnullN C.1 C.2.1 hd ht (h p e s m below meth c H locs ls C hR hS hv)
theorem aw_ifnonnull {x : Nat} {off : Int} {tgt : Nat} (hd : decode (zc Z) pc = .ok (.ifnonnull off, 3)) (ht : (pc : Int) + off = (tgt : Int)) (h : AW Z tgt lv st I R) : AW Z pc lv (.ref x :: st) I R :=
  fun p e s m below meth c H locs ls C hR hS hv => lv_ifnonnull C.1 C.2.1 hd ht (h p e s m below meth c H locs ls C hR hS hv)
theorem aw_ifnonnullN {off : Int} (hd : decode (zc Z) pc = .ok (.ifnonnull off, 3)) (h : AW Z (pc + 3) lv st I R) : AW Z pc lv (.null :: st) I R :=
  fun p e s m below meth c H locs ls C hR hS hv => lv_ifnonnullN C.1 C.2.1 hd (h p e s m below meth c H locs ls C hR hS hv)
theorem aw_tableOut {dflt lo hi : Int} {offs : Array Int} {len : Nat} {x : Int32} {tgt : Nat} (hd : decode (zc Z) pc = .ok (.tableswitch dflt lo hi offs, len)) (hx : x.toInt < lo ∨ hi < x.toInt) (ht : (pc : Int) + dflt = (tgt : Int)) (h : AW Z tgt lv st I R) : AW Z pc lv (.int x :: st) I R :=
  fun p e s m below meth c H locs ls C hR hS hv => lv_tableOut C.1 C.2.1 hd hx ht (h p e s m below meth c H locs ls C hR hS hv)
theorem aw_tableIn {dflt lo hi : Int} {offs : Array Int} {len : Nat} {x : Int32} {off : Int} {tgt : Nat} (hd : decode (zc Z) pc = .ok (.tableswitch dflt lo hi offs, len)) (h1 : ¬ x.toInt < lo) (h2 : ¬ hi < x.toInt) (ho : offs[(x.toInt - lo).toNat]? = some off) (ht : (pc : Int) + off = (tgt : Int)) (h : AW Z tgt lv st I R) : AW Z pc lv (.int x :: st) I R :=
  fun p e s m below meth c H locs ls C hR hS hv => lv_tableIn C.1 C.2.1 hd h1 h2 ho ht (h p e s m below meth c H locs ls C hR hS hv)
/-! the heap -/
/-- a reference is good: its cell is there, and of the kind -/
def qok (R : qR) (a kd : Nat) : Prop := a < R.2.2.1 ∧ (R.2.1 a).1 = kd
/-- the references of the picture are good -/
def qWT (R : qR) : Prop := ∀ a j r, a < R.2.2.1 → R.1 a j = some r → qok R r (qfk (R.2.1 a).1 j)
theorem qWT.get (h : qWT R) {a j r kd kr : Nat} (ha : qok R a kd) (hp : R.1 a j = some r) (hk : qfk kd j = kr) : qok R r kr := by
  have := h a j r ha.1 hp
  rw [ha.2, hk] at this
  exact this
theorem qcell_o {G : qG} {a ci : Nat} (h : (R.2.1 a).1 = ci) (hc : ci < 9) : qcell G I R a = .inr (ci, qflds ci (I a) (fun j => qrf G.1 (R.1 a j))) := by
  unfold qcell
  rw [h]
  match ci, hc with
  | 0, _ => rfl
  | 1, _ => rfl
  | 2, _ => rfl
  | 3, _ => rfl
  | 4, _ => rfl
  | 5, _ => rfl
  | 6, _ => rfl
  | 7, _ => rfl
  | 8, _ => rfl
theorem qcell_i {G : qG} {a : Nat} (h : (R.2.1 a).1 = 9) : qcell G I R a = .inl (G.2.2.1, (R.2.1 a).2, .inl (I a)) := by
  simp only [qcell, h]
theorem qcell_z {G : qG} {a : Nat} (h : (R.2.1 a).1 = 10) : qcell G I R a = .inl (G.2.2.2.1, (R.2.1 a).2, .inl (I a)) := by
  simp only [qcell, h]
theorem qcell_t {G : qG} {a : Nat} (h : (R.2.1 a).1 = 11) : qcell G I R a = .inl (G.2.2.2.2, (R.2.1 a).2, .inr (.inr (.inr (.inr (fun j => qrf G.1 (R.1 a j)))))) := by
  simp only [qcell, h]
/-- writes -/
def qup (I : qI) (a j : Nat) (v : Int32) : qI := fun b => if b = a then upd (I a) j v else I b
def qpr (R : qR) (a j : Nat) (r : Option Nat) : qR := ((fun b => if b = a then va_up (R.1 a) j r else R.1 b), R.2)
def qzI (I : qI) (a : Nat) : qI := fun b => if b = a then (fun _ => 0) else I b
def qzR (R : qR) (kd len : Nat) : qR := ((fun b => if b = R.2.2.1 then (fun _ => none) else R.1 b), (fun b => if b = R.2.2.1 then (kd, len) else R.2.1 b), R.2.2.1 + 1, R.2.2.2 + len)
theorem qup_self (I : qI) (a j : Nat) (v : Int32) : qup I a j v a = upd (I a) j v := if_pos rfl
theorem qup_ne (I : qI) {a b : Nat} (j : Nat) (v : Int32) (h : b ≠ a) : qup I a j v b = I b := if_neg h
theorem qcell_up {G : qG} {a b j : Nat} {v : Int32} (h : b ≠ a) : qcell G (qup I a j v) R b = qcell G I R b := by
  unfold qcell
  rw [qup_ne I j v h]
theorem qcell_pr {G : qG} {a b j : Nat} {r : Option Nat} (h : b ≠ a) : qcell G I (qpr R a j r) b = qcell G I R b := by
  unfold qcell qpr
  simp only [if_neg h]
theorem qcell_z0 {G : qG} {b kd len : Nat} (h : b < R.2.2.1) : qcell G (qzI I R.2.2.1) (qzR R kd len) b = qcell G I R b := by
  unfold qcell qzI qzR
  simp only [if_neg (Nat.ne_of_lt h)]
/-- a field by its entry of the constant pool -/
def qFL (own : String) (index ci j : Nat) : Prop := ∃ (C : String) (T : u_T) (N : Nat) (ty : Nat → FieldType), vwCl[ci]? = some (C, T, N) ∧ j < N ∧ Cond.fieldLink own index (T j).1 (T j).2.1 (T j).2.2.1 ∈ wW ∧ (∀ w ∈ u_ws C T N, w ∈ wW) ∧ (∀ k, k < N → parseFieldDescriptor (T k).2.2.1 = some (ty k)) ∧ (∀ a, a < N → ∀ b, b < N → a ≠ b → (T a).2.1 ≠ (T b).2.1)
theorem aw_geti {own : String} {index ci j a : Nat} (hf : qFL own index ci j) (hc : ci < 9) (hg : ∀ i p, (qflds ci i p)[j]? = some (.int (i j))) (ha : qok R a ci) (ho : (zM Z).1.cls = own) (hd : decode (zc Z) pc = .ok (.getfield index, 3)) (h : AW Z (pc + 3) lv (.int (I a j) :: st) I R) : AW Z pc lv (.ref ((zG Z).1 + a) :: st) I R := by
  intro p e s m below meth c H locs ls C hR hS hv
  obtain ⟨C0, T, N, ty, h1, h2, h3, h4, h5, h6⟩ := hf
  subst ho
  have he := qw_at (zG Z) I R ha.1
  rw [qcell_o ha.2 hc] at he
  exact va_get C.1 C.2.1 C.2.2.2.2.2.1 h4 C.2.2.2.2.1 C.2.2.2.2.2.2.2.2.1.1 hR.1 a he h1 j h2 (C.2.2.2.2.2.1 _ h3) (fun _ q => q) (hg _ _) hd (h p e s m below meth c H locs ls C hR hS hv)
theorem aw_getr {own : String} {index ci j a r : Nat} (hf : qFL own index ci j) (hc : ci < 9) (hg : ∀ i p, (qflds ci i p)[j]? = some (va_rf (p j))) (ha : qok R a ci) (hr : R.1 a j = some r) (ho : (zM Z).1.cls = own) (hd : decode (zc Z) pc = .ok (.getfield index, 3)) (h : AW Z (pc + 3) lv (.ref ((zG Z).1 + r) :: st) I R) : AW Z pc lv (.ref ((zG Z).1 + a) :: st) I R := by
  intro p e s m below meth c H locs ls C hR hS hv
  obtain ⟨C0, T, N, ty, h1, h2, h3, h4, h5, h6⟩ := hf
  subst ho
  have he := qw_at (zG Z) I R ha.1
  rw [qcell_o ha.2 hc] at he
  have hq := hg (I a) (fun j => qrf (zG Z).1 (R.1 a j))
  simp only [hr, qrf, Option.map_some, va_rf] at hq
  exact va_get C.1 C.2.1 C.2.2.2.2.2.1 h4 C.2.2.2.2.1 C.2.2.2.2.2.2.2.2.1.1 hR.1 a he h1 j h2 (C.2.2.2.2.2.1 _ h3) (fun _ q => q) hq hd (h p e s m below meth c H locs ls C hR hS hv)
theorem aw_puti {own : String} {index ci j a : Nat} {v : Int32} (hf : qFL own index ci j) (hc : ci < 9) (hg : ∀ i p, qflds ci (upd i j v) p = (qflds ci i p).set j (.int v)) (hl : ∀ i p, j < (qflds ci i p).length) (hfin : ∀ C T N, vwCl[ci]? = some (C, T, N) → (T j).2.2.2 = false ∧ parseFieldDescriptor (T j).2.2.1 = some .int) (ha : qok R a ci) (ho : (zM Z).1.cls = own) (hd : decode (zc Z) pc = .ok (.putfield index, 3)) (h : AW Z (pc + 3) lv st (qup I a j v) R) : AW Z pc lv (.int v :: .ref ((zG Z).1 + a) :: st) I R := by
  intro p e s m below meth c H locs ls C hR hS hv
  obtain ⟨C0, T, N, ty, h1, h2, h3, h4, h5, h6⟩ := hf
  subst ho
  have he := qw_at (zG Z) I R ha.1
  rw [qcell_o ha.2 hc] at he
  refine va_put C.1 C.2.1 C.2.2.2.2.2.1 h4 ty h5 h6 C.2.2.2.2.1 C.2.2.2.2.2.2.2.2.1.1 hR.1 (qD _ I R) hS a he h1 j h2 (C.2.2.2.2.2.1 _ h3) (fun _ q => q) (hfin _ _ _ h1).1 (hfin _ _ _ h1).2 rfl rfl (hl _ _) hd (fun H1 locs1 hP1 hD1 hS1 => h p e s m below meth c H1 locs1 ls C ⟨?_, hR.2⟩ hS1 hv)
  rw [← hg, ← qup_self I a j v, ← qcell_o (G := zG Z) (I := qup I a j v) ha.2 hc, qw_set (zG Z) I (qup I a j v) R R rfl (fun b hb => qcell_up hb)] at hP1
  exact hP1
end AWR
end
section
section AWH
variable {Z : qZ} {pc : Nat} {lv : List (Nat × Value)} {st : List Value} {I : qI} {R : qR}
theorem qsize {p : Program} {e : Env} {s : State} {m : MethodId} {below : List Frame} {meth : Method} {c : Code} {H : Heap} {locs : List Loc} {Q : State → Prop} {g : JFrame} {w : Nat} (C : qCX Z p s m meth c) (hR : qRP (zG Z) I R H ∧ zN Z ≤ R.2.2.1 ∧ zS Z ≤ R.2.2.2) (hS : va_S (qA (zG Z)) s.heap H locs)
    (h : H.size = (zG Z).1 + R.2.2.1 → W p (zl Z) e (zR Z) s m (zA Z).toArray below meth c H locs (R.2.2.1 - zN Z) w Q g) : W p (zl Z) e (zR Z) s m (zA Z).toArray below meth c H locs (R.2.2.1 - zN Z) w Q g := by
  intro T hT X
  have h1 := X.heapSize
  rw [hT] at h1
  have h2 := C.2.2.2.2.2.2.2.2.2.1
  have h3 := hS.1
  have h4 := hR.2.1
  have h5 : (zG Z).1 + R.2.2.1 ≤ H.size := by
    by_cases hn : R.2.2.1 = 0
    · omega
    · have := (hR.1 (R.2.2.1 - 1) _ (qw_at (zG Z) I R (by omega))).lt
      have h6 : (zG Z).1 + (R.2.2.1 - 1) < H.size := this
      omega
  exact h (by omega) T hT X
theorem aw_iald {a : Nat} {i : Int32} (ha : qok R a 9) (hi : vp_in i (R.2.1 a).2) (hd : decode (zc Z) pc = .ok (.iaload, 1)) (h : AW Z (pc + 1) lv (.int (I a i.toNatClampNeg) :: st) I R) : AW Z pc lv (.int i :: .ref ((zG Z).1 + a) :: st) I R := by
  intro p e s m below meth c H locs ls C hR hS hv
  have he := qw_at (zG Z) I R ha.1
  rw [qcell_i ha.2] at he
  exact va_iald C.1 C.2.1 C.2.2.2.2.2.2.2.2.1.1 hR.1 a 0 he rfl hi hd (h p e s m below meth c H locs ls C hR hS hv)
theorem aw_zald {a : Nat} {i : Int32} (ha : qok R a 10) (hi : vp_in i (R.2.1 a).2) (hd : decode (zc Z) pc = .ok (.baload, 1)) (h : AW Z (pc + 1) lv (.int (I a i.toNatClampNeg) :: st) I R) : AW Z pc lv (.int i :: .ref ((zG Z).1 + a) :: st) I R := by
  intro p e s m below meth c H locs ls C hR hS hv
  have he := qw_at (zG Z) I R ha.1
  rw [qcell_z ha.2] at he
  exact va_zald C.1 C.2.1 C.2.2.2.2.2.2.2.2.1.1 hR.1 a 1 he rfl hi hd (h p e s m below meth c H locs ls C hR hS hv)
theorem aw_aald {a r : Nat} {i : Int32} (ha : qok R a 11) (hi : vp_in i (R.2.1 a).2) (hr : R.1 a i.toNatClampNeg = some r) (hd : decode (zc Z) pc = .ok (.aaload, 1)) (h : AW Z (pc + 1) lv (.ref ((zG Z).1 + r) :: st) I R) : AW Z pc lv (.int i :: .ref ((zG Z).1 + a) :: st) I R := by
  intro p e s m below meth c H locs ls C hR hS hv
  have he := qw_at (zG Z) I R ha.1
  rw [qcell_t ha.2] at he
  refine va_aldq C.1 C.2.1 C.2.2.2.2.2.2.2.2.1.1 hR.1 a 2 he rfl hi hd ?_
  rw [show va_rf (qrf (zG Z).1 (R.1 a i.toNatClampNeg)) = .ref ((zG Z).1 + r) by rw [hr]; rfl]
  exact h p e s m below meth c H locs ls C hR hS hv
theorem aw_alen {a kd : Nat} {v : Int32} (ha : qok R a kd) (hk : kd = 9 ∨ kd = 11) (hl : Int32.ofNat (R.2.1 a).2 = v) (hd : decode (zc Z) pc = .ok (.arraylength, 1)) (h : AW Z (pc + 1) lv (.int v :: st) I R) : AW Z pc lv (.ref ((zG Z).1 + a) :: st) I R := by
  intro p e s m below meth c H locs ls C hR hS hv
  have he := qw_at (zG Z) I R ha.1
  rcases hk with rfl | rfl
  · rw [qcell_i ha.2] at he
    exact va_alen C.1 C.2.1 C.2.2.2.2.2.2.2.2.1.1 hR.1 a 0 he rfl hl hd (h p e s m below meth c H locs ls C hR hS hv)
  · rw [qcell_t ha.2] at he
    exact va_alen C.1 C.2.1 C.2.2.2.2.2.2.2.2.1.1 hR.1 a 2 he rfl hl hd (h p e s m below meth c H locs ls C hR hS hv)
theorem aw_iast {a : Nat} {i x : Int32} (ha : qok R a 9) (hi : vp_in i (R.2.1 a).2) (hd : decode (zc Z) pc = .ok (.iastore, 1)) (h : AW Z (pc + 1) lv st (qup I a i.toNatClampNeg x) R) : AW Z pc lv (.int x :: .int i :: .ref ((zG Z).1 + a) :: st) I R := by
  intro p e s m below meth c H locs ls C hR hS hv
  have he := qw_at (zG Z) I R ha.1
  rw [qcell_i ha.2] at he
  refine va_iast C.1 C.2.1 C.2.2.2.2.2.2.2.2.1.1 hR.1 (qD _ I R) hS a 0 he rfl hi hd (fun H1 locs1 hP1 hD1 hS1 => h p e s m below meth c H1 locs1 ls C ⟨?_, hR.2⟩ hS1 hv)
  rw [← qup_self I a i.toNatClampNeg x, ← qcell_i (G := zG Z) (I := qup I a i.toNatClampNeg x) ha.2, qw_set (zG Z) I (qup I a i.toNatClampNeg x) R R rfl (fun b hb => qcell_up hb)] at hP1
  exact hP1
theorem aw_zast {a : Nat} {i x : Int32} (ha : qok R a 10) (hi : vp_in i (R.2.1 a).2) (hd : decode (zc Z) pc = .ok (.bastore, 1)) (h : AW Z (pc + 1) lv st (qup I a i.toNatClampNeg (vp_nar .boolean x)) R) : AW Z pc lv (.int x :: .int i :: .ref ((zG Z).1 + a) :: st) I R := by
  intro p e s m below meth c H locs ls C hR hS hv
  have he := qw_at (zG Z) I R ha.1
  rw [qcell_z ha.2] at he
  refine va_zast C.1 C.2.1 C.2.2.2.2.2.2.2.2.1.1 hR.1 (qD _ I R) hS a 1 he rfl hi hd (fun H1 locs1 hP1 hD1 hS1 => h p e s m below meth c H1 locs1 ls C ⟨?_, hR.2⟩ hS1 hv)
  rw [← qup_self I a i.toNatClampNeg (vp_nar .boolean x), ← qcell_z (G := zG Z) (I := qup I a i.toNatClampNeg (vp_nar .boolean x)) ha.2, qw_set (zG Z) I (qup I a i.toNatClampNeg (vp_nar .boolean x)) R R rfl (fun b hb => qcell_up hb)] at hP1
  exact hP1
theorem qpr_self (R : qR) (a j : Nat) (r : Option Nat) : (qpr R a j r).1 a = va_up (R.1 a) j r := if_pos rfl
theorem qrf_up (b : Nat) (f : Nat → Option Nat) (j r : Nat) : (fun x => qrf b (va_up f j (some r) x)) = va_up (fun x => qrf b (f x)) j (some (b + r)) := by
  funext x
  unfold va_up
  split <;> rfl
theorem aw_aast {a r : Nat} {i : Int32} (ha : qok R a 11) (hi : vp_in i (R.2.1 a).2) (hr : qok R r 5) (hd : decode (zc Z) pc = .ok (.aastore, 1)) (h : AW Z (pc + 1) lv st I (qpr R a i.toNatClampNeg (some r))) : AW Z pc lv (.ref ((zG Z).1 + r) :: .int i :: .ref ((zG Z).1 + a) :: st) I R := by
  intro p e s m below meth c H locs ls C hR hS hv
  have he := qw_at (zG Z) I R ha.1
  have he2 := qw_at (zG Z) I R hr.1
  rw [qcell_t ha.2] at he
  rw [qcell_o hr.2 (by decide)] at he2
  refine va_astq (r := (RX5, TX5, 6)) C.1 C.2.1 C.2.2.2.2.2.2.2.2.1.1 hR.1 (qD _ I R) hS a 2 r 5 he rfl he2 rfl hi hd (fun H1 locs1 hP1 hD1 hS1 => h p e s m below meth c H1 locs1 ls C ⟨?_, hR.2⟩ hS1 hv)
  rw [← qrf_up] at hP1
  have hc : qcell (zG Z) I (qpr R a i.toNatClampNeg (some r)) a = .inl ((zG Z).2.2.2.2, (R.2.1 a).2, .inr (.inr (.inr (.inr (fun x => qrf (zG Z).1 (va_up (R.1 a) i.toNatClampNeg (some r) x)))))) := by
    rw [qcell_t (R := qpr R a i.toNatClampNeg (some r)) ha.2, qpr_self]
    rfl
  rw [← hc, qw_set (zG Z) I I R (qpr R a i.toNatClampNeg (some r)) rfl (fun b hb => qcell_pr hb)] at hP1
  exact hP1
/-- a reference into a field -/
def qTY (ci j : Nat) (fin : Bool) : Prop := ∀ C T N, vwCl[ci]? = some (C, T, N) → (T j).2.2.2 = fin ∧ (T j).1 = C ∧ ∃ ty, parseFieldDescriptor (T j).2.2.1 = some ty ∧ ∀ x, narrow ty (.ref x) = .ref x ∧ fits ty (.ref x) = true
theorem aw_putr {own : String} {index ci j a r : Nat} (hf : qFL own index ci j) (hc : ci < 9) (hg : ∀ i p, qflds ci i (va_up p j (some ((zG Z).1 + r))) = (qflds ci i p).set j (.ref ((zG Z).1 + r))) (hl : ∀ i p, j < (qflds ci i p).length) (hfin : qTY ci j false) (ha : qok R a ci) (ho : (zM Z).1.cls = own) (hd : decode (zc Z) pc = .ok (.putfield index, 3)) (h : AW Z (pc + 3) lv st I (qpr R a j (some r))) : AW Z pc lv (.ref ((zG Z).1 + r) :: .ref ((zG Z).1 + a) :: st) I R := by
  intro p e s m below meth c H locs ls C hR hS hv
  obtain ⟨C0, T, N, ty, h1, h2, h3, h4, h5, h6⟩ := hf
  subst ho
  have he := qw_at (zG Z) I R ha.1
  rw [qcell_o ha.2 hc] at he
  obtain ⟨f1, f2, ty1, f3, f4⟩ := hfin _ _ _ h1
  refine va_put C.1 C.2.1 C.2.2.2.2.2.1 h4 ty h5 h6 C.2.2.2.2.1 C.2.2.2.2.2.2.2.2.1.1 hR.1 (qD _ I R) hS a he h1 j h2 (C.2.2.2.2.2.1 _ h3) (fun _ q => q) f1 f3 (f4 _).1 (f4 _).2 (hl _ _) hd (fun H1 locs1 hP1 hD1 hS1 => h p e s m below meth c H1 locs1 ls C ⟨?_, hR.2⟩ hS1 hv)
  have hcell : qcell (zG Z) I (qpr R a j (some r)) a = .inr (ci, qflds ci (I a) (va_up (fun x => qrf (zG Z).1 (R.1 a x)) j (some ((zG Z).1 + r)))) := by
    rw [qcell_o (R := qpr R a j (some r)) ha.2 hc, qpr_self, qrf_up]
  rw [← hg, ← hcell, qw_set (zG Z) I I R (qpr R a j (some r)) rfl (fun b hb => qcell_pr hb)] at hP1
  exact hP1
theorem aw_putF {own : String} {index ci j a r : Nat} (hf : qFL own index ci j) (hc : ci < 9) (hg : ∀ i p, qflds ci i (va_up p j (some ((zG Z).1 + r))) = (qflds ci i p).set j (.ref ((zG Z).1 + r))) (hl : ∀ i p, j < (qflds ci i p).length) (hfin : qTY ci j true) (hown : ∀ C T N, vwCl[ci]? = some (C, T, N) → C = own) (hin : (zM Z).1.name = "<init>") (ha : qok R a ci) (ho : (zM Z).1.cls = own) (hd : decode (zc Z) pc = .ok (.putfield index, 3)) (h : AW Z (pc + 3) lv st I (qpr R a j (some r))) : AW Z pc lv (.ref ((zG Z).1 + r) :: .ref ((zG Z).1 + a) :: st) I R := by
  intro p e s m below meth c H locs ls C hR hS hv
  obtain ⟨C0, T, N, ty, h1, h2, h3, h4, h5, h6⟩ := hf
  subst ho
  have he := qw_at (zG Z) I R ha.1
  rw [qcell_o ha.2 hc] at he
  obtain ⟨f1, f2, ty1, f3, f4⟩ := hfin _ _ _ h1
  refine va_putF C.1 C.2.1 C.2.2.2.2.2.1 h4 ty h5 h6 C.2.2.2.2.1 C.2.2.2.2.2.2.2.2.1.1 hR.1 (qD _ I R) hS a he h1 j h2 (C.2.2.2.2.2.1 _ h3) (fun _ q => q) f1 (C.2.2.2.2.2.2.2.1.trans hin) (f2.trans (hown _ _ _ h1)) f3 (f4 _).1 (f4 _).2 (hl _ _) hd (fun H1 locs1 hP1 hD1 hS1 => h p e s m below meth c H1 locs1 ls C ⟨?_, hR.2⟩ hS1 hv)
  have hcell : qcell (zG Z) I (qpr R a j (some r)) a = .inr (ci, qflds ci (I a) (va_up (fun x => qrf (zG Z).1 (R.1 a x)) j (some ((zG Z).1 + r)))) := by
    rw [qcell_o (R := qpr R a j (some r)) ha.2 hc, qpr_self, qrf_up]
  rw [← hg, ← hcell, qw_set (zG Z) I I R (qpr R a j (some r)) rfl (fun b hb => qcell_pr hb)] at hP1
  exact hP1
/-- the heap behind a cell that was pushed -/
theorem qpush {G : qG} {H H1 : Heap} {kd len : Nat} (hP : qRP G I R H) (hz : H.size = G.1 + R.2.2.1) (o1 : ∀ q, q < H.size → H1[q]? = H[q]?) (hc : va_at G.2.1 vwCl (G.1 + R.2.2.1, qcell G (qzI I R.2.2.1) (qzR R kd len) R.2.2.1) H1) : qRP G (qzI I R.2.2.1) (qzR R kd len) H1 := by
  unfold qRP
  rw [← qw_push G I (qzI I R.2.2.1) R (qzR R kd len) rfl (fun j hj => qcell_z0 hj)]
  refine (va_P.kept hP (fun k q hq => ?_)).app (fun k q hq => ?_)
  · obtain ⟨hl, rfl⟩ := qw_of hq
    exact o1 _ (by show G.1 + k < H.size; omega)
  · have hz : k < 1 := (List.getElem?_eq_some_iff.mp hq).1
    rw [show k = 0 by omega] at hq
    cases hq
    exact hc
theorem qS_push {A : Nat → Prop} {H0 H H1 : Heap} {locs : List Loc} (hS : va_S A H0 H locs) (z : H1.size = H.size + 1) (o1 : ∀ q, q < H.size → H1[q]? = H[q]?) : va_S A H0 H1 locs :=
  ⟨Nat.le_trans hS.1 (by omega), fun x h1 h2 => (o1 x (Nat.lt_of_lt_of_le h1 hS.1)).trans (hS.2.1 x h1 h2), hS.2.2⟩
theorem aw_new {own C : String} {T : u_T} {N ci index : Nat} (ty : Nat → FieldType) (hcl : vwCl[ci]? = some (C, T, N)) (hc : ci < 9) (hin : ∀ w ∈ u_ws C T N, w ∈ wW) (hty : ∀ k, k < N → parseFieldDescriptor (T k).2.2.1 = some (ty k)) (h1 : Cond.classLink own index C ∈ wW) (h2 : Cond.instantiable C N ∈ wW) (h3 : Cond.initialized C ∈ wW) (hfs : ∀ j, j < N → defaultValue (ty j) = vp_V (qflds ci (fun _ => 0) (fun _ => none)) j)
    (hr1 : R.2.2.1 + 1 - zN Z ≤ (zR Z).cells) (hr2 : R.2.2.2 + N - zS Z ≤ (zR Z).slots) (ho : (zM Z).1.cls = own) (hd : decode (zc Z) pc = .ok (.new index, 3)) (h : AW Z (pc + 3) lv (.ref ((zG Z).1 + R.2.2.1) :: st) (qzI I R.2.2.1) (qzR R ci N)) : AW Z pc lv st I R := by
  intro p e s m below meth c H locs ls C0 hR hS hv
  subst ho
  refine qsize C0 hR hS (fun hz => ?_)
  have hKn := C0.2.2.2.2.2.2.2.2.1.1.1 ci _ hcl
  have e1 : R.2.2.1 - zN Z + 1 = (qzR R ci N).2.2.1 - zN Z := by show _ = R.2.2.1 + 1 - zN Z; have := hR.2.1; omega
  have e2 : R.2.2.2 - zS Z + N = (qzR R ci N).2.2.2 - zS Z := by show _ = R.2.2.2 + N - zS Z; have := hR.2.2; omega
  refine W.newcK C0.1 C0.2.1 C0.2.2.2.2.1 (C0.2.2.2.2.2.1 _ h1) (C0.2.2.2.2.2.1 _ h2) (C0.2.2.2.2.2.1 _ h3) rfl hd (by rw [e1]; exact hr1) (by rw [e2]; exact hr2) hKn.2.1 hz fun H1 kC hkC g1 z1 o1 => ?_
  rw [e1, e2]
  refine h p e s m below meth c H1 locs ls C0 ⟨qpush hR.1 hz (fun q hq => o1 q (by omega)) ?_, ?_, ?_⟩ (qS_push hS (by omega) (fun q hq => o1 q (by omega))) hv
  · rw [qcell_o (ci := ci) (by simp [qzR]) hc]
    refine ⟨_, hcl, (u_born ty C0.2.2.2.2.2.1 hin hKn hkC g1 hty).to (fun j hj => ?_)⟩
    rw [hfs j hj]
    simp [qzI, qzR, qrf]
  · show zN Z ≤ R.2.2.1 + 1; have := hR.2.1; omega
  · show zS Z ≤ R.2.2.2 + N; have := hR.2.2; omega
theorem aw_newi {x : Int32} {N : Nat} (hw : Cond.arrayClass .int ∈ wW) (h0 : ¬ x < 0) (hN : x.toNatClampNeg = N) (hb : N ≤ 100000000) (hr1 : R.2.2.1 + 1 - zN Z ≤ (zR Z).cells) (hr2 : R.2.2.2 + N - zS Z ≤ (zR Z).slots) (hd : decode (zc Z) pc = .ok (.newarray .int, 2)) (h : AW Z (pc + 2) lv (.ref ((zG Z).1 + R.2.2.1) :: st) (qzI I R.2.2.1) (qzR R 9 N)) : AW Z pc lv (.int x :: st) I R := by
  intro p e s m below meth c H locs ls C0 hR hS hv
  refine qsize C0 hR hS (fun hz => ?_)
  have e1 : R.2.2.1 - zN Z + 1 = (qzR R 9 N).2.2.1 - zN Z := by show _ = R.2.2.1 + 1 - zN Z; have := hR.2.1; omega
  have e2 : R.2.2.2 - zS Z + N = (qzR R 9 N).2.2.2 - zS Z := by show _ = R.2.2.2 + N - zS Z; have := hR.2.2; omega
  refine va_newaK C0.1 C0.2.1 (atype := .int) (C0.2.2.2.2.2.1 _ hw) rfl hd rfl h0 hN (by show N * 4 ≤ _; omega) (by rw [e1]; exact hr1) (by rw [e2]; exact hr2) hz fun H1 cA g1 z1 o1 hAr hNm => ?_
  rw [e1, e2]
  have hcA : cA = (zG Z).2.2.1 := Option.some.inj (hNm.symm.trans (C0.2.2.2.2.2.2.2.2.1.1.2 0 _ rfl).2)
  subst hcA
  refine h p e s m below meth c H1 locs ls C0 ⟨qpush hR.1 hz (fun q hq => o1 q (by omega)) ?_, ?_, ?_⟩ (qS_push hS (by omega) (fun q hq => o1 q (by omega))) hv
  · rw [qcell_i (by simp [qzR])]
    show H1[(zG Z).1 + R.2.2.1]? = _
    rw [g1]
    simp [qzI, qzR, vp_cell_i, defaultValue, newarray.typeOf]
  · show zN Z ≤ R.2.2.1 + 1; have := hR.2.1; omega
  · show zS Z ≤ R.2.2.2 + N; have := hR.2.2; omega
theorem aw_newz {x : Int32} {N : Nat} (hw : Cond.arrayClass .boolean ∈ wW) (h0 : ¬ x < 0) (hN : x.toNatClampNeg = N) (hb : N ≤ 100000000) (hr1 : R.2.2.1 + 1 - zN Z ≤ (zR Z).cells) (hr2 : R.2.2.2 + N - zS Z ≤ (zR Z).slots) (hd : decode (zc Z) pc = .ok (.newarray .boolean, 2)) (h : AW Z (pc + 2) lv (.ref ((zG Z).1 + R.2.2.1) :: st) (qzI I R.2.2.1) (qzR R 10 N)) : AW Z pc lv (.int x :: st) I R := by
  intro p e s m below meth c H locs ls C0 hR hS hv
  refine qsize C0 hR hS (fun hz => ?_)
  have e1 : R.2.2.1 - zN Z + 1 = (qzR R 10 N).2.2.1 - zN Z := by show _ = R.2.2.1 + 1 - zN Z; have := hR.2.1; omega
  have e2 : R.2.2.2 - zS Z + N = (qzR R 10 N).2.2.2 - zS Z := by show _ = R.2.2.2 + N - zS Z; have := hR.2.2; omega
  refine va_newaK C0.1 C0.2.1 (atype := .boolean) (C0.2.2.2.2.2.1 _ hw) rfl hd rfl h0 hN (by show N * 1 ≤ _; omega) (by rw [e1]; exact hr1) (by rw [e2]; exact hr2) hz fun H1 cA g1 z1 o1 hAr hNm => ?_
  rw [e1, e2]
  have hcA : cA = (zG Z).2.2.2.1 := Option.some.inj (hNm.symm.trans (C0.2.2.2.2.2.2.2.2.1.1.2 1 _ rfl).2)
  subst hcA
  refine h p e s m below meth c H1 locs ls C0 ⟨qpush hR.1 hz (fun q hq => o1 q (by omega)) ?_, ?_, ?_⟩ (qS_push hS (by omega) (fun q hq => o1 q (by omega))) hv
  · rw [qcell_z (by simp [qzR])]
    show H1[(zG Z).1 + R.2.2.1]? = _
    rw [g1]
    simp [qzI, qzR, vp_cell_i, defaultValue, newarray.typeOf]
  · show zN Z ≤ R.2.2.1 + 1; have := hR.2.1; omega
  · show zS Z ≤ R.2.2.2 + N; have := hR.2.2; omega
theorem aw_newt {own : String} {index : Nat} {x : Int32} {N : Nat} (hw : Cond.classLink own index RX5 ∈ wW) (h0 : ¬ x < 0) (hN : x.toNatClampNeg = N) (hb : N ≤ 100000000) (hr1 : R.2.2.1 + 1 - zN Z ≤ (zR Z).cells) (hr2 : R.2.2.2 + N - zS Z ≤ (zR Z).slots) (ho : (zM Z).1.cls = own) (hd : decode (zc Z) pc = .ok (.anewarray index, 3)) (h : AW Z (pc + 3) lv (.ref ((zG Z).1 + R.2.2.1) :: st) (qzI I R.2.2.1) (qzR R 11 N)) : AW Z pc lv (.int x :: st) I R := by
  intro p e s m below meth c H locs ls C0 hR hS hv
  subst ho
  refine qsize C0 hR hS (fun hz => ?_)
  have e1 : R.2.2.1 - zN Z + 1 = (qzR R 11 N).2.2.1 - zN Z := by show _ = R.2.2.1 + 1 - zN Z; have := hR.2.1; omega
  have e2 : R.2.2.2 - zS Z + N = (qzR R 11 N).2.2.2 - zS Z := by show _ = R.2.2.2 + N - zS Z; have := hR.2.2; omega
  refine W.anew C0.1 C0.2.1 C0.2.2.2.2.1 (C0.2.2.2.2.2.1 _ hw) (va_AO.use C0.2.2.2.2.2.2.2.2.1.2.2) rfl hd rfl h0 (by rw [hN]; omega) (by rw [e1]; exact hr1) (by rw [hN, e2]; exact hr2) fun cA kA comp f1 f2 f3 f4 => ?_
  generalize hH1 : H.push ({ cls := cA, slots := Array.replicate x.toNatClampNeg .null, vm := .none } : Cell) = H1
  have z1 : H1.size = H.size + 1 := by rw [← hH1, Array.size_push]
  have g1 : H1[H.size]? = some (arrV cA x.toNatClampNeg (fun _ => .null)) := by rw [← hH1, Array.getElem?_push_size, ← arrV_new]
  have o1 : ∀ q : Nat, q < H.size → H1[q]? = H[q]? := fun q hq => by rw [← hH1, Array.getElem?_push, if_neg (Nat.ne_of_lt hq)]
  rw [hN, e1, e2, hz]
  obtain ⟨kA2, comp2, -, -, -, q4⟩ := (C0.2.2.2.2.2.2.2.2.1.1.2 2 _ rfl).2
  have hcA : cA = (zG Z).2.2.2.2 := Option.some.inj (f1.symm.trans q4)
  subst hcA
  refine h p e s m below meth c H1 locs ls C0 ⟨qpush hR.1 hz o1 ?_, ?_, ?_⟩ (qS_push hS z1 o1) hv
  · rw [qcell_t (by simp [qzR])]
    show H1[(zG Z).1 + R.2.2.1]? = _
    rw [← hz, g1, hN]
    simp [qzR, vp_cell_q, qrf, va_rf]
  · show zN Z ≤ R.2.2.1 + 1; have := hR.2.1; omega
  · show zS Z ≤ R.2.2.2 + N; have := hR.2.2; omega
theorem aw_objInit {own : String} {index a : Nat} (h1 : Cond.methodLink own index objectInit ∈ wW) (h2 : Cond.instanceMethod objectInit ∈ wW) (h3 : Cond.code objectInit ⟨#[0xb1]⟩ 1 none ∈ wW) (ho : (zM Z).1.cls = own) (hst : (st.map fun v => v.category).sum ≤ 8) (hf : 1 ≤ (zR Z).frames) (hlo : 20 ≤ (zR Z).locals) (hd : decode (zc Z) pc = .ok (.invokespecial index, 3)) (h : AW Z (pc + 3) lv st I R) : AW Z pc lv (.ref a :: st) I R := by
  intro p e s m below meth c H locs ls C hR hS hv
  subst ho
  refine W.objInit C.1 C.2.1 C.2.2.2.2.1 (C.2.2.2.2.2.1 _ h1) (C.2.2.2.2.2.1 _ h2) (C.2.2.2.2.2.1 _ h3) rfl (by rw [C.2.2.2.1]; exact hv.1) rfl hd hf (by show 2 * 0 + _ + 12 ≤ _; omega) ?_
  exact h p e s m below meth c H locs ls C hR hS hv
end AWH
end
section
/-! CONTRACTS AND CALLS -/
def qrm (d mc ms : Nat) : Room := { frames := d, cells := mc, slots := ms, locals := 64 * d }
def qQc (G : qG) (v1 : Option Value) (I1 : qI) (R1 : qR) : Array Value → State → Outcome → State → Prop := fun _ st oc t => oc = .returned v1 ∧ qRP G I1 R1 t.heap ∧ va_F (qA G) st t
def qPc (G : qG) (As : List Value) (I : qI) (R : qR) : Array Value → State → Prop := va_Pc As (fun U => U.heap.size = G.1 + R.2.2.1 ∧ qRP G I R U.heap ∧ qK G U)
/-- THE CONTRACT of a method M, at call depth d: with arguments As and heap picture (I, R) it returns v1 and leaves (I1, R1) -/
def qMt (l : Launch) (G : qG) (M : qM) (d : Nat) (As : List Value) (I : qI) (R : qR) (v1 : Option Value) (I1 : qI) (R1 : qR) : Prop :=
  (R.2.2.1 ≤ R1.2.2.1 ∧ R.2.2.2 ≤ R1.2.2.2) ∧ Met l M.1 (qws M) (qrm d (R1.2.2.1 - R.2.2.1) (R1.2.2.2 - R.2.2.2)) (qPc G As I R) (qQc G v1 I1 R1) (R1.2.2.1 - R.2.2.1) (R1.2.2.2 - R.2.2.2) (qA G)
abbrev Zm (l : Launch) (G : qG) (M : qM) (d : Nat) (As : List Value) (R : qR) (v1 : Option Value) (I1 : qI) (R1 : qR) : qZ :=
  (l, G, M, As, (fun _ => True), qrm d (R1.2.2.1 - R.2.2.1) (R1.2.2.2 - R.2.2.2), (R.2.2.1, R.2.2.2), fun below s => MQ below (qQc G v1 I1 R1) As.toArray s (R1.2.2.1 - R.2.2.1) (R1.2.2.2 - R.2.2.2) (qA G))
theorem qblind (G : qG) (As : List Value) (I : qI) (R : qR) : FrameBlind (qPc G As I R) := by
  intro a U g mk h
  obtain ⟨h1, h2, h3, h4⟩ := h
  exact ⟨h1, h2, h3, qK.same (u := U) (U := U.calling g mk a) rfl h4⟩
theorem qMt_of {l : Launch} {G : qG} {M : qM} {d : Nat} {As : List Value} {I : qI} {R : qR} {v1 : Option Value} {I1 : qI} {R1 : qR} (hp : plainName M.1.cls = true) (hlen : (lg_sl As).length ≤ M.2.2.1) (hle : R.2.2.1 ≤ R1.2.2.1 ∧ R.2.2.2 ≤ R1.2.2.2)
    (h : AW (Zm l G M d As R v1 I1 R1) 0 (lv_args 0 As) [] I R) : qMt l G M d As I R v1 I1 R1 := by
  refine ⟨hle, Met.ofW (cc := M.2.1) (maxL := M.2.2.1) (ret := M.2.2.2) hp rfl ?_⟩
  intro p e s m args below meth c s₁ B hml hv
  obtain ⟨rfl, hsz, hP, hK⟩ := hv
  have hts := atoms_spec (ws := qws M) B.pre
  have hl := lv_entry As (n := M.2.2.1) hlen
  rw [lg_entry_eq]
  have := h p e s m below meth c s.heap [] _ ⟨B.exec, B.bytes, B.returns, hml, findClass_of_methodNamed B.named, fun w hw => hts w (List.mem_cons_of_mem _ hw), B.notSynchronized, (name_of_methodNamed B.named B.method).1, hK, hsz, trivial⟩ ⟨hP, Nat.le_refl _, Nat.le_refl _⟩ va_S.rf hl
  rw [show R.2.2.1 - zN (Zm l G M d As R v1 I1 R1) = 0 from Nat.sub_self _, show R.2.2.2 - zS (Zm l G M d As R v1 I1 R1) = 0 from Nat.sub_self _] at this
  exact this
section AWC
variable {Z : qZ} {pc : Nat} {lv : List (Nat × Value)} {st st0 rest : List Value} {I : qI} {R : qR} {v1 : Option Value} {I1 : qI} {R1 : qR} {M : qM} {d : Nat} {As : List Value}
theorem aw_run {a : Array Value} (hle : R.2.2.1 ≤ R1.2.2.1 ∧ R.2.2.2 ≤ R1.2.2.2) (hrun : ∀ (p : Program) (e : Env) (s : State) (m : MethodId) (below : List Frame) (meth : Method) (c : Code) (H : Heap) (locs : List Loc) (ls : Array Slot), qCX Z p s m meth c → H.size = (zG Z).1 + R.2.2.1 → qRP (zG Z) I R H → zN Z ≤ R.2.2.1 → zS Z ≤ R.2.2.2 → lv_has ls (zn Z) lv →
      va_Run p (zl Z) e (zR Z) s m (zA Z).toArray below meth c H locs (R.2.2.1 - zN Z) (R.2.2.2 - zS Z) (R1.2.2.1 - R.2.2.1) (R1.2.2.2 - R.2.2.2) (F0 m pc ls st0) rest (qQc (zG Z) v1 I1 R1 a) (qA (zG Z)))
    (h : AW Z (pc + 3) lv (v1.toList ++ rest) I1 R1) : AW Z pc lv st0 I R := by
  intro p e s m below meth c H locs ls C hR hS hv
  refine qsize C hR hS (fun hz => ?_)
  intro T hT X
  obtain ⟨v, st₀, t, T', L, h0, X', hL, e1, e2, ⟨hv1, hP1, hz1, hk1⟩, stp⟩ := hrun p e s m below meth c H locs ls C hz hR.1 hR.2.1 hR.2.2 hv T hT X
  have hv2 : v = v1 := by injection hv1
  subst hv2
  rw [h0] at hz1 hk1
  have a1 : R.2.2.1 - zN Z + (R1.2.2.1 - R.2.2.1) = R1.2.2.1 - zN Z := by have := hR.2.1; omega
  have a2 : R.2.2.2 - zS Z + (R1.2.2.2 - R.2.2.2) = R1.2.2.2 - zS Z := by have := hR.2.2; omega
  rw [a1, a2] at X'
  have hS1 : va_S (qA (zG Z)) s.heap T'.heap (locs ++ L) := ⟨Nat.le_trans hS.1 (by rw [e1]; exact hz1), fun q g1 g2 => by rw [e1, hk1 q (Nat.lt_of_lt_of_le g1 hS.1) g2]; exact hS.2.1 q g1 g2, fun q hq => by
    rcases List.mem_append.mp hq with g | g
    · exact hS.2.2 q g
    · exact hL q g⟩
  obtain ⟨t2, b1, b2⟩ := h p e s m below meth c T'.heap (locs ++ L) ls C ⟨by rw [e1]; exact hP1, Nat.le_trans hR.2.1 hle.1, Nat.le_trans hR.2.2 hle.2⟩ hS1 hv T' rfl X'
  exact ⟨t2, stp t2 b1, b2⟩
/-- room for a callee -/
def qroom (Z : qZ) (M : qM) (d : Nat) (R1 : qR) : Prop := d + 1 ≤ (zR Z).frames ∧ 8 + (M.2.2.1 + 11) + 64 * d ≤ (zR Z).locals ∧ R1.2.2.1 - zN Z ≤ (zR Z).cells ∧ R1.2.2.2 - zS Z ≤ (zR Z).slots
theorem qroom_fits {M : qM} {d : Nat} (hr : qroom Z M d R1) (hle : R.2.2.1 ≤ R1.2.2.1 ∧ R.2.2.2 ≤ R1.2.2.2) (h1 : zN Z ≤ R.2.2.1) (h2 : zS Z ≤ R.2.2.2) : R.2.2.1 - zN Z + (R1.2.2.1 - R.2.2.1) ≤ (zR Z).cells ∧ R.2.2.2 - zS Z + (R1.2.2.2 - R.2.2.2) ≤ (zR Z).slots := by
  have := hr.2.2.1
  have := hr.2.2.2
  omega
/-- what a callee's name must be -/
def qnm (M : qM) (n : Nat) : Prop := M.1.cls ≠ "java/lang/invoke/MethodHandle" ∧ M.1.cls ≠ "java/lang/invoke/VarHandle" ∧ (parseMethodDescriptor M.1.desc).map (fun d => d.parameters.length) = some n
def qCV (own : String) (index n ci : Nat) (M : qM) : Prop := Cond.code M.1 M.2.1 M.2.2.1 M.2.2.2 ∈ wW ∧ Cond.initialized M.1.cls ∈ wW ∧ Cond.methodLink own index M.1 ∈ wW ∧ Cond.instanceMethod M.1 ∈ wW ∧ Cond.selects M.1.cls M.1 M.1 ∈ wW ∧ qnm M n ∧ ci < 9 ∧ ∃ T N, vwCl[ci]? = some (M.1.cls, T, N)
def qCS (own : String) (index n : Nat) (M : qM) : Prop := Cond.code M.1 M.2.1 M.2.2.1 M.2.2.2 ∈ wW ∧ Cond.initialized M.1.cls ∈ wW ∧ Cond.methodLink own index M.1 ∈ wW ∧ Cond.static M.1 ∈ wW ∧ qnm M n
def qCI (own : String) (index n : Nat) (M : qM) : Prop := Cond.code M.1 M.2.1 M.2.2.1 none ∈ wW ∧ Cond.initialized M.1.cls ∈ wW ∧ Cond.methodLink own index M.1 ∈ wW ∧ Cond.instanceMethod M.1 ∈ wW ∧ M.1.name = "<init>" ∧ qnm M n ∧ M.2.2.2 = none
def qCIN (own : String) (index n : Nat) (host : String) (M : qM) : Prop := Cond.code M.1 M.2.1 M.2.2.1 none ∈ wW ∧ Cond.initialized M.1.cls ∈ wW ∧ Cond.methodLinkNest own index M.1 host ∈ qNest ∧ Cond.instanceMethod M.1 ∈ wW ∧ M.1.name = "<init>" ∧ qnm M n ∧ M.2.2.2 = none
theorem aw_callV {own : String} {index n ci a : Nat} (hM : qMt (zl Z) (zG Z) M d (.ref ((zG Z).1 + a) :: As) I R v1 I1 R1) (hC : qCV own index n ci M) (hn : As.length = n) (hr : qroom Z M d R1) (ho : (zM Z).1.cls = own) (ha : qok R a ci) (hs : (rest.map fun v => v.category).sum ≤ 8) (hd : decode (zc Z) pc = .ok (.invokevirtual index, 3)) (hst : st0 = As.reverse ++ .ref ((zG Z).1 + a) :: rest)
    (h : AW Z (pc + 3) lv (v1.toList ++ rest) I1 R1) : AW Z pc lv st0 I R := by
  obtain ⟨c1, c2, c3, c4, c5, c6, c7, T, N, c8⟩ := hC
  subst ho hst
  refine aw_run (a := (Value.ref ((zG Z).1 + a) :: As).toArray) hM.1 (fun p e s m below meth c H locs ls C hz hP hn0 hs0 hl => ?_) h
  have he := qw_at (zG Z) I R ha.1
  rw [qcell_o ha.2 c7] at he
  have hts := C.2.2.2.2.2.1
  exact va_runV (cc := zc Z) (nL := zn Z) (n := n) (As := As) (C := M.1.cls) (bytes := M.2.1) (maxL := M.2.2.1) (ret := M.2.2.2) (ws := qws M) ⟨C.1, C.2.1, C.2.2.2.1, C.2.2.2.2.1, hts⟩ hM.2 ⟨callB_of n hts (qws_good c1) rfl rfl rfl (hts _ c2) (hts _ c3) c6 ⟨hr.1, hr.2.1⟩, hts _ c4, hts _ c5⟩
    ⟨qblind _ _ _ _, va_recv C.2.2.2.2.2.2.2.2.1.1 hP c8 he, fun U hU hW => ⟨rfl, by rw [hU]; exact hz, by rw [hU]; exact hP, C.2.2.2.2.2.2.2.2.1.moved hW⟩⟩ rfl hn hl.1 rfl (lv_room hs) hd (qroom_fits hr hM.1 hn0 hs0)
theorem aw_callS {own : String} {index n : Nat} (hM : qMt (zl Z) (zG Z) M d As I R v1 I1 R1) (hC : qCS own index n M) (hn : As.length = n) (hr : qroom Z M d R1) (ho : (zM Z).1.cls = own) (hs : (rest.map fun v => v.category).sum ≤ 8) (hd : decode (zc Z) pc = .ok (.invokestatic index, 3)) (hst : st0 = As.reverse ++ rest)
    (h : AW Z (pc + 3) lv (v1.toList ++ rest) I1 R1) : AW Z pc lv st0 I R := by
  obtain ⟨c1, c2, c3, c4, c6⟩ := hC
  subst ho hst
  refine aw_run (a := As.toArray) hM.1 (fun p e s m below meth c H locs ls C hz hP hn0 hs0 hl => ?_) h
  have hts := C.2.2.2.2.2.1
  exact va_runS (cc := zc Z) (nL := zn Z) (n := n) (As := As) (bytes := M.2.1) (maxL := M.2.2.1) (ret := M.2.2.2) (ws := qws M) ⟨C.1, C.2.1, C.2.2.2.1, C.2.2.2.2.1, hts⟩ hM.2 ⟨callB_of n hts (qws_good c1) rfl rfl rfl (hts _ c2) (hts _ c3) c6 ⟨hr.1, hr.2.1⟩, hts _ c4⟩
    ⟨qblind _ _ _ _, fun U hU hW => ⟨rfl, by rw [hU]; exact hz, by rw [hU]; exact hP, C.2.2.2.2.2.2.2.2.1.moved hW⟩⟩ rfl hn hl.1 rfl (lv_room hs) hd (qroom_fits hr hM.1 hn0 hs0)
theorem aw_callI {own : String} {index n a : Nat} (hM : qMt (zl Z) (zG Z) M d (.ref ((zG Z).1 + a) :: As) I R none I1 R1) (hC : qCI own index n M) (hn : As.length = n) (hr : qroom Z M d R1) (ho : (zM Z).1.cls = own) (hs : (rest.map fun v => v.category).sum ≤ 8) (hd : decode (zc Z) pc = .ok (.invokespecial index, 3)) (hst : st0 = As.reverse ++ .ref ((zG Z).1 + a) :: rest)
    (h : AW Z (pc + 3) lv rest I1 R1) : AW Z pc lv st0 I R := by
  obtain ⟨c1, c2, c3, c4, c5, c6, c7⟩ := hC
  obtain ⟨y, cc, mL, rt⟩ := M
  dsimp only at c1 c2 c3 c4 c5 c6 c7
  subst c7
  subst ho hst
  refine aw_run (v1 := none) (rest := rest) (a := (Value.ref ((zG Z).1 + a) :: As).toArray) hM.1 (fun p e s m below meth c H locs ls C hz hP hn0 hs0 hl => ?_) h
  have hts := C.2.2.2.2.2.1
  exact va_runI (cc := zc Z) (nL := zn Z) (n := n) (As := As) (bytes := cc) (maxL := mL) (ws := qws (y, cc, mL, none)) ⟨C.1, C.2.1, C.2.2.2.1, C.2.2.2.2.1, hts⟩ hM.2 ⟨callB_of n hts (qws_good (M := (y, cc, mL, none)) c1) rfl rfl rfl (hts _ c2) (hts _ c3) c6 ⟨hr.1, hr.2.1⟩, c5, hts _ c4⟩
    ⟨qblind _ _ _ _, fun U hU hW => ⟨rfl, by rw [hU]; exact hz, by rw [hU]; exact hP, C.2.2.2.2.2.2.2.2.1.moved hW⟩⟩ rfl hn hl.1 rfl (lv_room hs) hd (qroom_fits hr hM.1 hn0 hs0)
theorem aw_callIN {own host : String} {index n a : Nat} (hM : qMt (zl Z) (zG Z) M d (.ref ((zG Z).1 + a) :: As) I R none I1 R1) (hC : qCIN own index n host M) (hn : As.length = n) (hr : qroom Z M d R1) (ho : (zM Z).1.cls = own) (hs : (rest.map fun v => v.category).sum ≤ 8) (hd : decode (zc Z) pc = .ok (.invokespecial index, 3)) (hst : st0 = As.reverse ++ .ref ((zG Z).1 + a) :: rest)
    (h : AW Z (pc + 3) lv rest I1 R1) : AW Z pc lv st0 I R := by
  obtain ⟨c1, c2, c3, c4, c5, c6, c7⟩ := hC
  obtain ⟨y, cc, mL, rt⟩ := M
  dsimp only at c1 c2 c3 c4 c5 c6 c7
  subst c7
  subst ho hst
  refine aw_run (v1 := none) (rest := rest) (a := (Value.ref ((zG Z).1 + a) :: As).toArray) hM.1 (fun p e s m below meth c H locs ls C hz hP hn0 hs0 hl => ?_) h
  have hts := C.2.2.2.2.2.1
  exact va_runIN (cc := zc Z) (nL := zn Z) (n := n) (As := As) (bytes := cc) (maxL := mL) (ws := qws (y, cc, mL, none)) ⟨C.1, C.2.1, C.2.2.2.1, C.2.2.2.2.1, hts⟩ hM.2 ⟨va_cnB n hts (qws_good (M := (y, cc, mL, none)) c1) rfl rfl rfl (C.2.2.2.2.2.2.2.2.1.2.1 _ c3) (hts _ c2) c6 ⟨hr.1, hr.2.1⟩, c5, hts _ c4⟩
    ⟨qblind _ _ _ _, fun U hU hW => ⟨rfl, by rw [hU]; exact hz, by rw [hU]; exact hP, C.2.2.2.2.2.2.2.2.1.moved hW⟩⟩ rfl hn hl.1 rfl (lv_room hs) hd (qroom_fits hr hM.1 hn0 hs0)
end AWC
section AWE
variable {l : Launch} {G : qG} {M : qM} {d : Nat} {As : List Value} {R0 : qR} {v1 : Option Value} {I1 : qI} {R1 : qR} {pc : Nat} {lv : List (Nat × Value)} {I : qI} {R : qR}
theorem aw_iret {x : Int32} (hr : M.2.2.2 = some .int) (hd : decode M.2.1 pc = .ok (.ireturn, 1)) (h1 : v1 = some (.int x)) (h2 : I1 = I) (h3 : R1 = R) : AW (Zm l G M d As R0 v1 I1 R1) pc lv [.int x] I R := by
  subst h1 h2 h3
  intro p e s m below meth c H locs ls C hR hS hv
  have hlocks := C.2.2.2.2.2.2.1
  exact W.iret C.1 C.2.1 (C.2.2.1.trans hr) (fun t ht hW => ⟨rfl, by rw [ht]; exact hR.1, hS.F ht⟩) hS.2.2 hd
theorem aw_zret {x : Int32} (hr : M.2.2.2 = some .boolean) (hx : narrow .boolean (.int x) = .int x) (hd : decode M.2.1 pc = .ok (.ireturn, 1)) (h1 : v1 = some (.int x)) (h2 : I1 = I) (h3 : R1 = R) : AW (Zm l G M d As R0 v1 I1 R1) pc lv [.int x] I R := by
  subst h1 h2 h3
  intro p e s m below meth c H locs ls C hR hS hv
  have hlocks := C.2.2.2.2.2.2.1
  exact W.zret C.1 C.2.1 (C.2.2.1.trans hr) hx (fun t ht hW => ⟨rfl, by rw [ht]; exact hR.1, hS.F ht⟩) hS.2.2 hd
theorem aw_vret (hr : M.2.2.2 = none) (hd : decode M.2.1 pc = .ok (.return_, 1)) (h1 : v1 = none) (h2 : I1 = I) (h3 : R1 = R) : AW (Zm l G M d As R0 v1 I1 R1) pc lv [] I R := by
  subst h1 h2 h3
  intro p e s m below meth c H locs ls C hR hS hv
  have hlocks := C.2.2.2.2.2.2.1
  exact W.vret C.1 C.2.1 (C.2.2.1.trans hr) (fun t ht hW => ⟨rfl, by rw [ht]; exact hR.1, hS.F ht⟩) hS.2.2 hd
theorem aw_aret {v : Value} {t0 : String} (hr : M.2.2.2 = some (.object t0)) (hx : v = .null ∨ ∃ a, v = .ref a) (hd : decode M.2.1 pc = .ok (.areturn, 1)) (h1 : v1 = some v) (h2 : I1 = I) (h3 : R1 = R) : AW (Zm l G M d As R0 v1 I1 R1) pc lv [v] I R := by
  subst h1 h2 h3
  intro p e s m below meth c H locs ls C hR hS hv
  have hlocks := C.2.2.2.2.2.2.1
  exact W.aret C.1 C.2.1 (C.2.2.1.trans hr) (Or.inl ⟨_, rfl⟩) hx (fun t ht hW => ⟨rfl, by rw [ht]; exact hR.1, hS.F ht⟩) hS.2.2 hd
end AWE
section AWL
variable {Z : qZ} {pc : Nat} {lv : List (Nat × Value)} {st : List Value} {I : qI} {R : qR}
theorem aw_max {own : String} {index : Nat} {x y : Int32} (h1 : Cond.methodLink own index Lib.Math.max.name ∈ wW) (h2 : Cond.static Lib.Math.max.name ∈ wW) (h3 : Cond.initialized "java/lang/Math" ∈ wW) (h4 : Cond.code Lib.Math.max.name Lib.Math.max.code 2 (some .int) ∈ wW) (ho : (zM Z).1.cls = own) (hs : (st.map fun v => v.category).sum ≤ 8) (hf : 1 ≤ (zR Z).frames) (hlo : 64 ≤ (zR Z).locals) (hc : R.2.2.1 - zN Z ≤ (zR Z).cells) (hc2 : R.2.2.2 - zS Z ≤ (zR Z).slots) (hd : decode (zc Z) pc = .ok (.invokestatic index, 3))
    (h : AW Z (pc + 3) lv (.int (if x < y then y else x) :: st) I R) : AW Z pc lv (.int y :: .int x :: st) I R := by
  intro p e s m below meth c H locs ls C hR hS hv
  subst ho
  have hts := C.2.2.2.2.2.1
  exact va_mmax C.1 C.2.1 (C.2.2.2.1.trans hv.1.symm) C.2.2.2.2.1 (hts _ h1) (hts _ h2) (hts _ h3) (hts _ h4) hf (by omega) hc hc2 hd (h p e s m below meth c H locs ls C hR hS hv)
theorem aw_min {own : String} {index : Nat} {x y : Int32} (h1 : Cond.methodLink own index Lib.Math.min.name ∈ wW) (h2 : Cond.static Lib.Math.min.name ∈ wW) (h3 : Cond.initialized "java/lang/Math" ∈ wW) (h4 : Cond.code Lib.Math.min.name Lib.Math.min.code 2 (some .int) ∈ wW) (ho : (zM Z).1.cls = own) (hs : (st.map fun v => v.category).sum ≤ 8) (hf : 1 ≤ (zR Z).frames) (hlo : 64 ≤ (zR Z).locals) (hc : R.2.2.1 - zN Z ≤ (zR Z).cells) (hc2 : R.2.2.2 - zS Z ≤ (zR Z).slots) (hd : decode (zc Z) pc = .ok (.invokestatic index, 3))
    (h : AW Z (pc + 3) lv (.int (if y < x then y else x) :: st) I R) : AW Z pc lv (.int y :: .int x :: st) I R := by
  intro p e s m below meth c H locs ls C hR hS hv
  subst ho
  have hts := C.2.2.2.2.2.1
  exact va_mmin C.1 C.2.1 (C.2.2.2.1.trans hv.1.symm) C.2.2.2.2.1 (hts _ h1) (hts _ h2) (hts _ h3) (hts _ h4) hf (by omega) hc hc2 hd (h p e s m below meth c H locs ls C hR hS hv)
def qcp (I : qI) (a b sp dp n : Nat) : qI := fun x => if x = b then va_cpy (I a) (I b) sp dp n else I x
theorem aw_copy {own : String} {index a b : Nat} {sp dp x : Int32} (h1 : Cond.methodLink own index arraycopyName ∈ wW) (h2 : Cond.native arraycopyName ∈ wW) (h3 : Cond.static arraycopyName ∈ wW) (h4 : Cond.initialized "java/lang/System" ∈ wW) (ho : (zM Z).1.cls = own) (ha : qok R a 9) (hb : qok R b 9) (g1 : ¬ sp < 0) (g2 : ¬ dp < 0) (g3 : ¬ x < 0) (g4 : sp.toNatClampNeg + x.toNatClampNeg ≤ (R.2.1 a).2) (g5 : dp.toNatClampNeg + x.toNatClampNeg ≤ (R.2.1 b).2) (hs : (st.map fun v => v.category).sum ≤ 8) (hf : 1 ≤ (zR Z).frames) (hlo : 64 ≤ (zR Z).locals) (hd : decode (zc Z) pc = .ok (.invokestatic index, 3))
    (h : AW Z (pc + 3) lv st (qcp I a b sp.toNatClampNeg dp.toNatClampNeg x.toNatClampNeg) R) : AW Z pc lv (.int x :: .int dp :: .ref ((zG Z).1 + b) :: .int sp :: .ref ((zG Z).1 + a) :: st) I R := by
  intro p e s m below meth c H locs ls C hR hS hv
  subst ho
  have hts := C.2.2.2.2.2.1
  have he := qw_at (zG Z) I R ha.1
  rw [qcell_i ha.2] at he
  have he2 := qw_at (zG Z) I R hb.1
  rw [qcell_i hb.2] at he2
  refine va_copyi C.1 C.2.1 (C.2.2.2.1.trans hv.1.symm) C.2.2.2.2.1 (hts _ h1) (hts _ h2) (hts _ h3) (hts _ h4) C.2.2.2.2.2.2.2.2.1.1 hR.1 (qD _ I R) hS a b 0 0 he he2 rfl rfl rfl g1 g2 g3 g4 g5 (fun i _ => rfl) hf (by
    have : nativeFrameWords "java/lang/System" "arraycopy" 5 + 11 ≤ 56 := by decide +kernel
    omega) hd (fun H1 locs1 hP1 hD1 hS1 => h p e s m below meth c H1 locs1 ls C ⟨?_, hR.2⟩ hS1 hv)
  have hc : qcell (zG Z) (qcp I a b sp.toNatClampNeg dp.toNatClampNeg x.toNatClampNeg) R b = .inl ((zG Z).2.2.1, (R.2.1 b).2, .inl (va_cpy (I a) (I b) sp.toNatClampNeg dp.toNatClampNeg x.toNatClampNeg)) := by
    rw [qcell_i hb.2]
    simp [qcp]
  rw [← hc, qw_set (zG Z) I _ R R rfl (fun j hj => by unfold qcell qcp; rw [if_neg hj])] at hP1
  exact hP1
end AWL
end
section
/-! methods: name, code, locals, answer -/
def mX0_init : qM := (yX0_init, cX0_init, 1, none)
def mX0_arrange : qM := (yX0_arrange, cX0_arrange, 5, none)
def mX0_wouldBreach : qM := (yX0_wouldBreach, cX0_wouldBreach, 3, some .boolean)
def mX0_breachedBy : qM := (yX0_breachedBy, cX0_breachedBy, 5, some .int)
def mX0_fillFewest : qM := (yX0_fillFewest, cX0_fillFewest, 5, none)
def mX0_fewestWith : qM := (yX0_fewestWith, cX0_fewestWith, 3, some .int)
def mX0_setOrder : qM := (yX0_setOrder, cX0_setOrder, 4, none)
def mX0_firstBehind : qM := (yX0_firstBehind, cX0_firstBehind, 3, some .int)
def mX1_init : qM := (yX1_init, cX1_init, 1, none)
def mX1_clear : qM := (yX1_clear, cX1_clear, 1, none)
def mX1_give : qM := (yX1_give, cX1_give, 5, none)
def mX2_init : qM := (yX2_init, cX2_init, 1, none)
def mX2_search : qM := (yX2_search, cX2_search, 6, none)
def mX2_reach : qM := (yX2_reach, cX2_reach, 5, some .boolean)
def mX2_prepare : qM := (yX2_prepare, cX2_prepare, 6, none)
def mX2_readStops : qM := (yX2_readStops, cX2_readStops, 5, none)
def mX2_fillPair : qM := (yX2_fillPair, cX2_fillPair, 8, none)
def mX2_openKnown : qM := (yX2_openKnown, cX2_openKnown, 2, none)
def mX2_needOf : qM := (yX2_needOf, cX2_needOf, 2, some .int)
def mX2_keep : qM := (yX2_keep, cX2_keep, 3, none)
def mX2_placeOf : qM := (yX2_placeOf, cX2_placeOf, 3, some .int)
def mX2_leastNeed : qM := (yX2_leastNeed, cX2_leastNeed, 10, some .int)
def mX2_pairNeedAt : qM := (yX2_pairNeedAt, cX2_pairNeedAt, 4, some .int)
def mX2_nextStations : qM := (yX2_nextStations, cX2_nextStations, 5, some .int)
def mX2_passed : qM := (yX2_passed, cX2_passed, 5, some .int)
def mX3_init : qM := (yX3_init, cX3_init, 1, none)
def mX3_tell : qM := (yX3_tell, cX3_tell, 3, none)
def mX3_fewestFor : qM := (yX3_fewestFor, cX3_fewestFor, 5, some .int)
def mX3_unionOf : qM := (yX3_unionOf, cX3_unionOf, 4, some .int)
def mX3_lesser : qM := (yX3_lesser, cX3_lesser, 3, some .int)
def mX4_init : qM := (yX4_init, cX4_init, 2, none)
def mX4_make : qM := (yX4_make, cX4_make, 4, none)
def mX4_isMade : qM := (yX4_isMade, cX4_isMade, 1, some .boolean)
def mX4_rowCount : qM := (yX4_rowCount, cX4_rowCount, 1, some .int)
def mX4_columnCount : qM := (yX4_columnCount, cX4_columnCount, 1, some .int)
def mX4_hasRow : qM := (yX4_hasRow, cX4_hasRow, 2, some .boolean)
def mX4_hasColumn : qM := (yX4_hasColumn, cX4_hasColumn, 2, some .boolean)
def mX4_stationOf : qM := (yX4_stationOf, cX4_stationOf, 2, some .int)
def mX4_trainOf : qM := (yX4_trainOf, cX4_trainOf, 2, some .int)
def mX4_read : qM := (yX4_read, cX4_read, 6, some .int)
def mX4_countBreaches : qM := (yX4_countBreaches, cX4_countBreaches, 1, some .int)
def mX4_countKnots : qM := (yX4_countKnots, cX4_countKnots, 1, some .int)
def mX4_isBreach : qM := (yX4_isBreach, cX4_isBreach, 3, some .boolean)
def mX4_laneCount : qM := (yX4_laneCount, cX4_laneCount, 1, some .int)
def mX4_laneOf : qM := (yX4_laneOf, cX4_laneOf, 2, some .int)
def mX4_takeMembers : qM := (yX4_takeMembers, cX4_takeMembers, 4, none)
def mX4_placeStops : qM := (yX4_placeStops, cX4_placeStops, 4, none)
def mX4_firstRow : qM := (yX4_firstRow, cX4_firstRow, 2, some .int)
def mX4_lastRow : qM := (yX4_lastRow, cX4_lastRow, 2, some .int)
def mX4_planLanes : qM := (yX4_planLanes, cX4_planLanes, 3, none)
def mX5_init : qM := (yX5_init, cX5_init, 1, none)
def mX5_takes : qM := (yX5_takes, cX5_takes, 4, some .boolean)
def mX5_add : qM := (yX5_add, cX5_add, 4, none)
def mX5_dropLast : qM := (yX5_dropLast, cX5_dropLast, 1, none)
def mX5_staysInDay : qM := (yX5_staysInDay, cX5_staysInDay, 6, some .boolean)
def mX5_move : qM := (yX5_move, cX5_move, 3, none)
def mX5_runsOn : qM := (yX5_runsOn, cX5_runsOn, 2, some .boolean)
def mX5_read : qM := (yX5_read, cX5_read, 3, some .int)
def mX5_leaves : qM := (yX5_leaves, cX5_leaves, 2, some .int)
def mX5_isAheadSomewhere : qM := (yX5_isAheadSomewhere, cX5_isAheadSomewhere, 4, some .boolean)
def mX5_copy : qM := (yX5_copy, cX5_copy, 2, none)
def mX6_init : qM := (yX6_init, cX6_init, 1, none)
def mX6_setOut : qM := (yX6_setOut, cX6_setOut, 5, none)
def mX6_findBest : qM := (yX6_findBest, cX6_findBest, 4, some .boolean)
def mX6_read : qM := (yX6_read, cX6_read, 3, some .int)
def mX6_findDepartures : qM := (yX6_findDepartures, cX6_findDepartures, 6, some .int)
def mX6_departureAt : qM := (yX6_departureAt, cX6_departureAt, 2, some .int)
def mX6_readLeg : qM := (yX6_readLeg, cX6_readLeg, 4, some .int)
def mX6_soonestAt : qM := (yX6_soonestAt, cX6_soonestAt, 7, some .int)
def mX6_ride : qM := (yX6_ride, cX6_ride, 6, some .boolean)
def mX6_countLegs : qM := (yX6_countLegs, cX6_countLegs, 5, none)
def mX6_lastBoardTo : qM := (yX6_lastBoardTo, cX6_lastBoardTo, 4, some .int)
def mX6_lastBoardBefore : qM := (yX6_lastBoardBefore, cX6_lastBoardBefore, 5, some .int)
def mX6_canChange : qM := (yX6_canChange, cX6_canChange, 6, some .boolean)
def mX6_firstTrain : qM := (yX6_firstTrain, cX6_firstTrain, 5, some .int)
def mX6_chooseTrains : qM := (yX6_chooseTrains, cX6_chooseTrains, 4, none)
def mX6_chooseTrain : qM := (yX6_chooseTrain, cX6_chooseTrain, 5, none)
def mX6_firstBoard : qM := (yX6_firstBoard, cX6_firstBoard, 8, some .int)
def mX6_chooseStations : qM := (yX6_chooseStations, cX6_chooseStations, 5, none)
def mX6_limitBefore : qM := (yX6_limitBefore, cX6_limitBefore, 5, some .int)
def mX6_leastChange : qM := (yX6_leastChange, cX6_leastChange, 5, some .int)
def mX6_collectMinutes : qM := (yX6_collectMinutes, cX6_collectMinutes, 4, none)
def mX6_insertMinute : qM := (yX6_insertMinute, cX6_insertMinute, 3, none)
def mX7_init : qM := (yX7_init, cX7_init, 2, none)
def mX7_train : qM := (yX7_train, cX7_train, 2, some .int)
def mX7_stop : qM := (yX7_stop, cX7_stop, 6, some .int)
def mX7_days : qM := (yX7_days, cX7_days, 4, some .boolean)
def mX7_cut : qM := (yX7_cut, cX7_cut, 3, some .boolean)
def mX7_shift : qM := (yX7_shift, cX7_shift, 4, some .boolean)
def mX7_sign : qM := (yX7_sign, cX7_sign, 3, some .boolean)
def mX7_change : qM := (yX7_change, cX7_change, 2, some .boolean)
def mX7_about : qM := (yX7_about, cX7_about, 3, some .int)
def mX7_signs : qM := (yX7_signs, cX7_signs, 5, some .int)
def mX7_table : qM := (yX7_table, cX7_table, 2, some .int)
def mX7_row : qM := (yX7_row, cX7_row, 2, some .int)
def mX7_column : qM := (yX7_column, cX7_column, 2, some .int)
def mX7_cell : qM := (yX7_cell, cX7_cell, 4, some .int)
def mX7_breaches : qM := (yX7_breaches, cX7_breaches, 2, some .int)
def mX7_breach : qM := (yX7_breach, cX7_breach, 3, some .int)
def mX7_lanes : qM := (yX7_lanes, cX7_lanes, 1, some .int)
def mX7_lane : qM := (yX7_lane, cX7_lane, 2, some .int)
def mX7_way : qM := (yX7_way, cX7_way, 6, some .int)
def mX7_departures : qM := (yX7_departures, cX7_departures, 4, some .int)
def mX7_departure : qM := (yX7_departure, cX7_departure, 6, some .int)
def mX7_areDays : qM := (yX7_areDays, cX7_areDays, 1, some .boolean)
def mX7_isStation : qM := (yX7_isStation, cX7_isStation, 1, some .boolean)
def mX7_canTravel : qM := (yX7_canTravel, cX7_canTravel, 3, some .boolean)
def mX7_trainOf : qM := (yX7_trainOf, cX7_trainOf, 2, some (.object "TrainBook$Train"))
def mX7_aboutBook : qM := (yX7_aboutBook, cX7_aboutBook, 2, some .int)
def mX7_canBeTable : qM := (yX7_canBeTable, cX7_canBeTable, 3, some .boolean)
def mX8_init : qM := (yX8_init, cX8_init, 1, none)
def mX8_isTrain : qM := (yX8_isTrain, cX8_isTrain, 2, some .boolean)
def mX8_isStation : qM := (yX8_isStation, cX8_isStation, 2, some .boolean)
def mX8_isMinute : qM := (yX8_isMinute, cX8_isMinute, 2, some .boolean)
def mX8_isDays : qM := (yX8_isDays, cX8_isDays, 2, some .boolean)
def mX8_train : qM := (yX8_train, cX8_train, 2, some .int)
def mX8_stopAt : qM := (yX8_stopAt, cX8_stopAt, 4, some .int)
def mX8_stop : qM := (yX8_stop, cX8_stop, 6, some .int)
def mX8_days : qM := (yX8_days, cX8_days, 3, some .boolean)
def mX8_cut : qM := (yX8_cut, cX8_cut, 2, some .boolean)
def mX8_shift : qM := (yX8_shift, cX8_shift, 4, some .boolean)
def mX8_sign : qM := (yX8_sign, cX8_sign, 3, some .boolean)
def mX8_change : qM := (yX8_change, cX8_change, 2, some .boolean)
def mX8_about : qM := (yX8_about, cX8_about, 5, some .int)
def mX8_ones : qM := (yX8_ones, cX8_ones, 4, some .int)
def mX8_signs : qM := (yX8_signs, cX8_signs, 9, some .int)
def mX8_digit : qM := (yX8_digit, cX8_digit, 3, some .int)
def mX8_behind : qM := (yX8_behind, cX8_behind, 6, some .int)
def mX8_isPlace : qM := (yX8_isPlace, cX8_isPlace, 3, some .boolean)
def mX8_findRows : qM := (yX8_findRows, cX8_findRows, 6, none)
def mX8_leaves : qM := (yX8_leaves, cX8_leaves, 3, some .int)
def mX8_isBreach : qM := (yX8_isBreach, cX8_isBreach, 5, some .boolean)
def mX8_breachesOf : qM := (yX8_breachesOf, cX8_breachesOf, 5, some .int)
def mX8_goesOn : qM := (yX8_goesOn, cX8_goesOn, 5, some .boolean)
def mX8_swap : qM := (yX8_swap, cX8_swap, 4, none)
def mX8_findColumns : qM := (yX8_findColumns, cX8_findColumns, 5, none)
def mX8_first : qM := (yX8_first, cX8_first, 2, some .int)
def mX8_last : qM := (yX8_last, cX8_last, 2, some .int)
def mX8_findLanes : qM := (yX8_findLanes, cX8_findLanes, 4, none)
def mX8_isFree : qM := (yX8_isFree, cX8_isFree, 4, some .boolean)
def mX8_table : qM := (yX8_table, cX8_table, 4, some .int)
def mX8_row : qM := (yX8_row, cX8_row, 2, some .int)
def mX8_isColumn : qM := (yX8_isColumn, cX8_isColumn, 2, some .boolean)
def mX8_column : qM := (yX8_column, cX8_column, 2, some .int)
def mX8_cell : qM := (yX8_cell, cX8_cell, 6, some .int)
def mX8_breaches : qM := (yX8_breaches, cX8_breaches, 5, some .int)
def mX8_breach : qM := (yX8_breach, cX8_breach, 3, some .int)
def mX8_lanes : qM := (yX8_lanes, cX8_lanes, 1, some .int)
def mX8_lane : qM := (yX8_lane, cX8_lane, 2, some .int)
def mX8_runs : qM := (yX8_runs, cX8_runs, 3, some .boolean)
def mX8_canChange : qM := (yX8_canChange, cX8_canChange, 3, some .boolean)
def mX8_isBoarded : qM := (yX8_isBoarded, cX8_isBoarded, 7, some .boolean)
def mX8_soonest : qM := (yX8_soonest, cX8_soonest, 10, some .int)
def mX8_findRest : qM := (yX8_findRest, cX8_findRest, 7, none)
def mX8_canGoOn : qM := (yX8_canGoOn, cX8_canGoOn, 7, some .boolean)
def mX8_canBoard : qM := (yX8_canBoard, cX8_canBoard, 6, some .boolean)
def mX8_leavesAt : qM := (yX8_leavesAt, cX8_leavesAt, 10, some .boolean)
def mX8_firstTrain : qM := (yX8_firstTrain, cX8_firstTrain, 7, some .int)
def mX8_finds : qM := (yX8_finds, cX8_finds, 11, some .boolean)
def mX8_boardOf : qM := (yX8_boardOf, cX8_boardOf, 8, some .int)
def mX8_restGoes : qM := (yX8_restGoes, cX8_restGoes, 11, some .boolean)
def mX8_way : qM := (yX8_way, cX8_way, 8, some .int)
def mX8_findDepartures : qM := (yX8_findDepartures, cX8_findDepartures, 7, none)
def mX8_isGone : qM := (yX8_isGone, cX8_isGone, 6, some .boolean)
def mX8_canDepart : qM := (yX8_canDepart, cX8_canDepart, 4, some .boolean)
def mX8_departures : qM := (yX8_departures, cX8_departures, 4, some .int)
def mX8_departure : qM := (yX8_departure, cX8_departure, 5, some .int)
def mJ6_bitCount_0f7a4 : qM := (yJ6_bitCount_0f7a4, cJ6_bitCount_0f7a4, 1, some .int)
def mJ9_max_7cf53 : qM := (yJ9_max_7cf53, cJ9_max_7cf53, 2, some .int)
def mJ9_min_7cf53 : qM := (yJ9_min_7cf53, cJ9_min_7cf53, 2, some .int)
def mJ7_fill_53178 : qM := (yJ7_fill_53178, cJ7_fill_53178, 4, none)
/-! fields -/
set_option maxRecDepth 20000 in
theorem in_X0 : ∀ w ∈ u_ws RX0 TX0 6, w ∈ wW := by
  intro w hw
  obtain ⟨k, hk, rfl⟩ := List.mem_map.mp hw
  have hk := List.mem_range.mp hk
  match k, hk with
  | 0, _ => exact wW_at 171 (by rfl) (by rfl)
  | 1, _ => exact wW_at 173 (by rfl) (by rfl)
  | 2, _ => exact wW_at 175 (by rfl) (by rfl)
  | 3, _ => exact wW_at 177 (by rfl) (by rfl)
  | 4, _ => exact wW_at 179 (by rfl) (by rfl)
  | 5, _ => exact wW_at 181 (by rfl) (by rfl)
theorem fg_X0_0 (i : Nat → Int32) (p : Nat → Option Nat) : (qflds 0 i p)[0]? = some (va_rf (p 0)) := rfl
theorem fs_X0_0 (a : Nat) (i : Nat → Int32) (p : Nat → Option Nat) : qflds 0 i (va_up p 0 (some a)) = (qflds 0 i p).set 0 (.ref a) := rfl
theorem ft_X0_0 : qTY 0 0 true := by
  intro C T N h
  cases h
  exact ⟨rfl, rfl, .array .int, by decide +kernel, fun x => ⟨rfl, rfl⟩⟩
theorem fn_X0_0 (i : Nat → Int32) (p : Nat → Option Nat) : 0 < (qflds 0 i p).length := by show 0 < 6; decide
theorem fg_X0_1 (i : Nat → Int32) (p : Nat → Option Nat) : (qflds 0 i p)[1]? = some (.int (i 1)) := rfl
theorem fs_X0_1 (v : Int32) (i : Nat → Int32) (p : Nat → Option Nat) : qflds 0 (upd i 1 v) p = (qflds 0 i p).set 1 (.int v) := rfl
theorem ft_X0_1 (C : String) (T : u_T) (N : Nat) (h : vwCl[0]? = some (C, T, N)) : (T 1).2.2.2 = false ∧ parseFieldDescriptor (T 1).2.2.1 = some .int := by cases h; exact ⟨rfl, by decide +kernel⟩
theorem fn_X0_1 (i : Nat → Int32) (p : Nat → Option Nat) : 1 < (qflds 0 i p).length := by show 1 < 6; decide
theorem fg_X0_2 (i : Nat → Int32) (p : Nat → Option Nat) : (qflds 0 i p)[2]? = some (.int (i 2)) := rfl
theorem fs_X0_2 (v : Int32) (i : Nat → Int32) (p : Nat → Option Nat) : qflds 0 (upd i 2 v) p = (qflds 0 i p).set 2 (.int v) := rfl
theorem ft_X0_2 (C : String) (T : u_T) (N : Nat) (h : vwCl[0]? = some (C, T, N)) : (T 2).2.2.2 = false ∧ parseFieldDescriptor (T 2).2.2.1 = some .int := by cases h; exact ⟨rfl, by decide +kernel⟩
theorem fn_X0_2 (i : Nat → Int32) (p : Nat → Option Nat) : 2 < (qflds 0 i p).length := by show 2 < 6; decide
theorem fg_X0_3 (i : Nat → Int32) (p : Nat → Option Nat) : (qflds 0 i p)[3]? = some (.int (i 3)) := rfl
theorem fs_X0_3 (v : Int32) (i : Nat → Int32) (p : Nat → Option Nat) : qflds 0 (upd i 3 v) p = (qflds 0 i p).set 3 (.int v) := rfl
theorem ft_X0_3 (C : String) (T : u_T) (N : Nat) (h : vwCl[0]? = some (C, T, N)) : (T 3).2.2.2 = false ∧ parseFieldDescriptor (T 3).2.2.1 = some .int := by cases h; exact ⟨rfl, by decide +kernel⟩
theorem fn_X0_3 (i : Nat → Int32) (p : Nat → Option Nat) : 3 < (qflds 0 i p).length := by show 3 < 6; decide
theorem fg_X0_4 (i : Nat → Int32) (p : Nat → Option Nat) : (qflds 0 i p)[4]? = some (va_rf (p 4)) := rfl
theorem fs_X0_4 (a : Nat) (i : Nat → Int32) (p : Nat → Option Nat) : qflds 0 i (va_up p 4 (some a)) = (qflds 0 i p).set 4 (.ref a) := rfl
theorem ft_X0_4 : qTY 0 4 true := by
  intro C T N h
  cases h
  exact ⟨rfl, rfl, .array .int, by decide +kernel, fun x => ⟨rfl, rfl⟩⟩
theorem fn_X0_4 (i : Nat → Int32) (p : Nat → Option Nat) : 4 < (qflds 0 i p).length := by show 4 < 6; decide
theorem fg_X0_5 (i : Nat → Int32) (p : Nat → Option Nat) : (qflds 0 i p)[5]? = some (va_rf (p 5)) := rfl
theorem fs_X0_5 (a : Nat) (i : Nat → Int32) (p : Nat → Option Nat) : qflds 0 i (va_up p 5 (some a)) = (qflds 0 i p).set 5 (.ref a) := rfl
theorem ft_X0_5 : qTY 0 5 true := by
  intro C T N h
  cases h
  exact ⟨rfl, rfl, .array .int, by decide +kernel, fun x => ⟨rfl, rfl⟩⟩
theorem fn_X0_5 (i : Nat → Int32) (p : Nat → Option Nat) : 5 < (qflds 0 i p).length := by show 5 < 6; decide
set_option maxRecDepth 20000 in
theorem in_X1 : ∀ w ∈ u_ws RX1 TX1 3, w ∈ wW := by
  intro w hw
  obtain ⟨k, hk, rfl⟩ := List.mem_map.mp hw
  have hk := List.mem_range.mp hk
  match k, hk with
  | 0, _ => exact wW_at 195 (by rfl) (by rfl)
  | 1, _ => exact wW_at 197 (by rfl) (by rfl)
  | 2, _ => exact wW_at 199 (by rfl) (by rfl)
theorem fg_X1_0 (i : Nat → Int32) (p : Nat → Option Nat) : (qflds 1 i p)[0]? = some (.int (i 0)) := rfl
theorem fs_X1_0 (v : Int32) (i : Nat → Int32) (p : Nat → Option Nat) : qflds 1 (upd i 0 v) p = (qflds 1 i p).set 0 (.int v) := rfl
theorem ft_X1_0 (C : String) (T : u_T) (N : Nat) (h : vwCl[1]? = some (C, T, N)) : (T 0).2.2.2 = false ∧ parseFieldDescriptor (T 0).2.2.1 = some .int := by cases h; exact ⟨rfl, by decide +kernel⟩
theorem fn_X1_0 (i : Nat → Int32) (p : Nat → Option Nat) : 0 < (qflds 1 i p).length := by show 0 < 3; decide
theorem fg_X1_1 (i : Nat → Int32) (p : Nat → Option Nat) : (qflds 1 i p)[1]? = some (va_rf (p 1)) := rfl
theorem fs_X1_1 (a : Nat) (i : Nat → Int32) (p : Nat → Option Nat) : qflds 1 i (va_up p 1 (some a)) = (qflds 1 i p).set 1 (.ref a) := rfl
theorem ft_X1_1 : qTY 1 1 true := by
  intro C T N h
  cases h
  exact ⟨rfl, rfl, .array .int, by decide +kernel, fun x => ⟨rfl, rfl⟩⟩
theorem fn_X1_1 (i : Nat → Int32) (p : Nat → Option Nat) : 1 < (qflds 1 i p).length := by show 1 < 3; decide
theorem fg_X1_2 (i : Nat → Int32) (p : Nat → Option Nat) : (qflds 1 i p)[2]? = some (va_rf (p 2)) := rfl
theorem fs_X1_2 (a : Nat) (i : Nat → Int32) (p : Nat → Option Nat) : qflds 1 i (va_up p 2 (some a)) = (qflds 1 i p).set 2 (.ref a) := rfl
theorem ft_X1_2 : qTY 1 2 true := by
  intro C T N h
  cases h
  exact ⟨rfl, rfl, .array .int, by decide +kernel, fun x => ⟨rfl, rfl⟩⟩
theorem fn_X1_2 (i : Nat → Int32) (p : Nat → Option Nat) : 2 < (qflds 1 i p).length := by show 2 < 3; decide
set_option maxRecDepth 20000 in
theorem in_X2 : ∀ w ∈ u_ws RX2 TX2 9, w ∈ wW := by
  intro w hw
  obtain ⟨k, hk, rfl⟩ := List.mem_map.mp hw
  have hk := List.mem_range.mp hk
  match k, hk with
  | 0, _ => exact wW_at 137 (by rfl) (by rfl)
  | 1, _ => exact wW_at 139 (by rfl) (by rfl)
  | 2, _ => exact wW_at 141 (by rfl) (by rfl)
  | 3, _ => exact wW_at 143 (by rfl) (by rfl)
  | 4, _ => exact wW_at 145 (by rfl) (by rfl)
  | 5, _ => exact wW_at 147 (by rfl) (by rfl)
  | 6, _ => exact wW_at 149 (by rfl) (by rfl)
  | 7, _ => exact wW_at 151 (by rfl) (by rfl)
  | 8, _ => exact wW_at 153 (by rfl) (by rfl)
theorem fg_X2_0 (i : Nat → Int32) (p : Nat → Option Nat) : (qflds 2 i p)[0]? = some (.int (i 0)) := rfl
theorem fs_X2_0 (v : Int32) (i : Nat → Int32) (p : Nat → Option Nat) : qflds 2 (upd i 0 v) p = (qflds 2 i p).set 0 (.int v) := rfl
theorem ft_X2_0 (C : String) (T : u_T) (N : Nat) (h : vwCl[2]? = some (C, T, N)) : (T 0).2.2.2 = false ∧ parseFieldDescriptor (T 0).2.2.1 = some .int := by cases h; exact ⟨rfl, by decide +kernel⟩
theorem fn_X2_0 (i : Nat → Int32) (p : Nat → Option Nat) : 0 < (qflds 2 i p).length := by show 0 < 9; decide
theorem fg_X2_1 (i : Nat → Int32) (p : Nat → Option Nat) : (qflds 2 i p)[1]? = some (va_rf (p 1)) := rfl
theorem fs_X2_1 (a : Nat) (i : Nat → Int32) (p : Nat → Option Nat) : qflds 2 i (va_up p 1 (some a)) = (qflds 2 i p).set 1 (.ref a) := rfl
theorem ft_X2_1 : qTY 2 1 true := by
  intro C T N h
  cases h
  exact ⟨rfl, rfl, .array .int, by decide +kernel, fun x => ⟨rfl, rfl⟩⟩
theorem fn_X2_1 (i : Nat → Int32) (p : Nat → Option Nat) : 1 < (qflds 2 i p).length := by show 1 < 9; decide
theorem fg_X2_2 (i : Nat → Int32) (p : Nat → Option Nat) : (qflds 2 i p)[2]? = some (.int (i 2)) := rfl
theorem fs_X2_2 (v : Int32) (i : Nat → Int32) (p : Nat → Option Nat) : qflds 2 (upd i 2 v) p = (qflds 2 i p).set 2 (.int v) := rfl
theorem ft_X2_2 (C : String) (T : u_T) (N : Nat) (h : vwCl[2]? = some (C, T, N)) : (T 2).2.2.2 = false ∧ parseFieldDescriptor (T 2).2.2.1 = some .int := by cases h; exact ⟨rfl, by decide +kernel⟩
theorem fn_X2_2 (i : Nat → Int32) (p : Nat → Option Nat) : 2 < (qflds 2 i p).length := by show 2 < 9; decide
theorem fg_X2_3 (i : Nat → Int32) (p : Nat → Option Nat) : (qflds 2 i p)[3]? = some (.int (i 3)) := rfl
theorem fs_X2_3 (v : Int32) (i : Nat → Int32) (p : Nat → Option Nat) : qflds 2 (upd i 3 v) p = (qflds 2 i p).set 3 (.int v) := rfl
theorem ft_X2_3 (C : String) (T : u_T) (N : Nat) (h : vwCl[2]? = some (C, T, N)) : (T 3).2.2.2 = false ∧ parseFieldDescriptor (T 3).2.2.1 = some .int := by cases h; exact ⟨rfl, by decide +kernel⟩
theorem fn_X2_3 (i : Nat → Int32) (p : Nat → Option Nat) : 3 < (qflds 2 i p).length := by show 3 < 9; decide
theorem fg_X2_4 (i : Nat → Int32) (p : Nat → Option Nat) : (qflds 2 i p)[4]? = some (.int (i 4)) := rfl
theorem fs_X2_4 (v : Int32) (i : Nat → Int32) (p : Nat → Option Nat) : qflds 2 (upd i 4 v) p = (qflds 2 i p).set 4 (.int v) := rfl
theorem ft_X2_4 (C : String) (T : u_T) (N : Nat) (h : vwCl[2]? = some (C, T, N)) : (T 4).2.2.2 = false ∧ parseFieldDescriptor (T 4).2.2.1 = some .int := by cases h; exact ⟨rfl, by decide +kernel⟩
theorem fn_X2_4 (i : Nat → Int32) (p : Nat → Option Nat) : 4 < (qflds 2 i p).length := by show 4 < 9; decide
theorem fg_X2_5 (i : Nat → Int32) (p : Nat → Option Nat) : (qflds 2 i p)[5]? = some (va_rf (p 5)) := rfl
theorem fs_X2_5 (a : Nat) (i : Nat → Int32) (p : Nat → Option Nat) : qflds 2 i (va_up p 5 (some a)) = (qflds 2 i p).set 5 (.ref a) := rfl
theorem ft_X2_5 : qTY 2 5 true := by
  intro C T N h
  cases h
  exact ⟨rfl, rfl, .array .int, by decide +kernel, fun x => ⟨rfl, rfl⟩⟩
theorem fn_X2_5 (i : Nat → Int32) (p : Nat → Option Nat) : 5 < (qflds 2 i p).length := by show 5 < 9; decide
theorem fg_X2_6 (i : Nat → Int32) (p : Nat → Option Nat) : (qflds 2 i p)[6]? = some (va_rf (p 6)) := rfl
theorem fs_X2_6 (a : Nat) (i : Nat → Int32) (p : Nat → Option Nat) : qflds 2 i (va_up p 6 (some a)) = (qflds 2 i p).set 6 (.ref a) := rfl
theorem ft_X2_6 : qTY 2 6 true := by
  intro C T N h
  cases h
  exact ⟨rfl, rfl, .array .int, by decide +kernel, fun x => ⟨rfl, rfl⟩⟩
theorem fn_X2_6 (i : Nat → Int32) (p : Nat → Option Nat) : 6 < (qflds 2 i p).length := by show 6 < 9; decide
theorem fg_X2_7 (i : Nat → Int32) (p : Nat → Option Nat) : (qflds 2 i p)[7]? = some (va_rf (p 7)) := rfl
theorem fs_X2_7 (a : Nat) (i : Nat → Int32) (p : Nat → Option Nat) : qflds 2 i (va_up p 7 (some a)) = (qflds 2 i p).set 7 (.ref a) := rfl
theorem ft_X2_7 : qTY 2 7 true := by
  intro C T N h
  cases h
  exact ⟨rfl, rfl, .array .int, by decide +kernel, fun x => ⟨rfl, rfl⟩⟩
theorem fn_X2_7 (i : Nat → Int32) (p : Nat → Option Nat) : 7 < (qflds 2 i p).length := by show 7 < 9; decide
theorem fg_X2_8 (i : Nat → Int32) (p : Nat → Option Nat) : (qflds 2 i p)[8]? = some (va_rf (p 8)) := rfl
theorem fs_X2_8 (a : Nat) (i : Nat → Int32) (p : Nat → Option Nat) : qflds 2 i (va_up p 8 (some a)) = (qflds 2 i p).set 8 (.ref a) := rfl
theorem ft_X2_8 : qTY 2 8 false := by
  intro C T N h
  cases h
  exact ⟨rfl, rfl, .array .int, by decide +kernel, fun x => ⟨rfl, rfl⟩⟩
theorem fn_X2_8 (i : Nat → Int32) (p : Nat → Option Nat) : 8 < (qflds 2 i p).length := by show 8 < 9; decide
set_option maxRecDepth 20000 in
theorem in_X3 : ∀ w ∈ u_ws RX3 TX3 1, w ∈ wW := by
  intro w hw
  obtain ⟨k, hk, rfl⟩ := List.mem_map.mp hw
  have hk := List.mem_range.mp hk
  match k, hk with
  | 0, _ => exact wW_at 109 (by rfl) (by rfl)
theorem fg_X3_0 (i : Nat → Int32) (p : Nat → Option Nat) : (qflds 3 i p)[0]? = some (va_rf (p 0)) := rfl
theorem fs_X3_0 (a : Nat) (i : Nat → Int32) (p : Nat → Option Nat) : qflds 3 i (va_up p 0 (some a)) = (qflds 3 i p).set 0 (.ref a) := rfl
theorem ft_X3_0 : qTY 3 0 true := by
  intro C T N h
  cases h
  exact ⟨rfl, rfl, .array .int, by decide +kernel, fun x => ⟨rfl, rfl⟩⟩
theorem fn_X3_0 (i : Nat → Int32) (p : Nat → Option Nat) : 0 < (qflds 3 i p).length := by show 0 < 1; decide
set_option maxRecDepth 20000 in
theorem in_X4 : ∀ w ∈ u_ws RX4 TX4 7, w ∈ wW := by
  intro w hw
  obtain ⟨k, hk, rfl⟩ := List.mem_map.mp hw
  have hk := List.mem_range.mp hk
  match k, hk with
  | 0, _ => exact wW_at 249 (by rfl) (by rfl)
  | 1, _ => exact wW_at 251 (by rfl) (by rfl)
  | 2, _ => exact wW_at 253 (by rfl) (by rfl)
  | 3, _ => exact wW_at 255 (by rfl) (by rfl)
  | 4, _ => exact wW_at 257 (by rfl) (by rfl)
  | 5, _ => exact wW_at 259 (by rfl) (by rfl)
  | 6, _ => exact wW_at 261 (by rfl) (by rfl)
theorem fg_X4_0 (i : Nat → Int32) (p : Nat → Option Nat) : (qflds 4 i p)[0]? = some (va_rf (p 0)) := rfl
theorem fs_X4_0 (a : Nat) (i : Nat → Int32) (p : Nat → Option Nat) : qflds 4 i (va_up p 0 (some a)) = (qflds 4 i p).set 0 (.ref a) := rfl
theorem ft_X4_0 : qTY 4 0 true := by
  intro C T N h
  cases h
  exact ⟨rfl, rfl, .array (.object "TrainBook$Train"), by decide +kernel, fun x => ⟨rfl, rfl⟩⟩
theorem fn_X4_0 (i : Nat → Int32) (p : Nat → Option Nat) : 0 < (qflds 4 i p).length := by show 0 < 7; decide
theorem fg_X4_1 (i : Nat → Int32) (p : Nat → Option Nat) : (qflds 4 i p)[1]? = some (va_rf (p 1)) := rfl
theorem fs_X4_1 (a : Nat) (i : Nat → Int32) (p : Nat → Option Nat) : qflds 4 i (va_up p 1 (some a)) = (qflds 4 i p).set 1 (.ref a) := rfl
theorem ft_X4_1 : qTY 4 1 true := by
  intro C T N h
  cases h
  exact ⟨rfl, rfl, .array .int, by decide +kernel, fun x => ⟨rfl, rfl⟩⟩
theorem fn_X4_1 (i : Nat → Int32) (p : Nat → Option Nat) : 1 < (qflds 4 i p).length := by show 1 < 7; decide
theorem fg_X4_2 (i : Nat → Int32) (p : Nat → Option Nat) : (qflds 4 i p)[2]? = some (va_rf (p 2)) := rfl
theorem fs_X4_2 (a : Nat) (i : Nat → Int32) (p : Nat → Option Nat) : qflds 4 i (va_up p 2 (some a)) = (qflds 4 i p).set 2 (.ref a) := rfl
theorem ft_X4_2 : qTY 4 2 true := by
  intro C T N h
  cases h
  exact ⟨rfl, rfl, .array .int, by decide +kernel, fun x => ⟨rfl, rfl⟩⟩
theorem fn_X4_2 (i : Nat → Int32) (p : Nat → Option Nat) : 2 < (qflds 4 i p).length := by show 2 < 7; decide
theorem fg_X4_3 (i : Nat → Int32) (p : Nat → Option Nat) : (qflds 4 i p)[3]? = some (va_rf (p 3)) := rfl
theorem fs_X4_3 (a : Nat) (i : Nat → Int32) (p : Nat → Option Nat) : qflds 4 i (va_up p 3 (some a)) = (qflds 4 i p).set 3 (.ref a) := rfl
theorem ft_X4_3 : qTY 4 3 true := by
  intro C T N h
  cases h
  exact ⟨rfl, rfl, .object "TrainBook$RowSearch", by decide +kernel, fun x => ⟨rfl, rfl⟩⟩
theorem fn_X4_3 (i : Nat → Int32) (p : Nat → Option Nat) : 3 < (qflds 4 i p).length := by show 3 < 7; decide
theorem fg_X4_4 (i : Nat → Int32) (p : Nat → Option Nat) : (qflds 4 i p)[4]? = some (va_rf (p 4)) := rfl
theorem fs_X4_4 (a : Nat) (i : Nat → Int32) (p : Nat → Option Nat) : qflds 4 i (va_up p 4 (some a)) = (qflds 4 i p).set 4 (.ref a) := rfl
theorem ft_X4_4 : qTY 4 4 true := by
  intro C T N h
  cases h
  exact ⟨rfl, rfl, .object "TrainBook$ColumnOrder", by decide +kernel, fun x => ⟨rfl, rfl⟩⟩
theorem fn_X4_4 (i : Nat → Int32) (p : Nat → Option Nat) : 4 < (qflds 4 i p).length := by show 4 < 7; decide
theorem fg_X4_5 (i : Nat → Int32) (p : Nat → Option Nat) : (qflds 4 i p)[5]? = some (va_rf (p 5)) := rfl
theorem fs_X4_5 (a : Nat) (i : Nat → Int32) (p : Nat → Option Nat) : qflds 4 i (va_up p 5 (some a)) = (qflds 4 i p).set 5 (.ref a) := rfl
theorem ft_X4_5 : qTY 4 5 true := by
  intro C T N h
  cases h
  exact ⟨rfl, rfl, .object "TrainBook$LanePlan", by decide +kernel, fun x => ⟨rfl, rfl⟩⟩
theorem fn_X4_5 (i : Nat → Int32) (p : Nat → Option Nat) : 5 < (qflds 4 i p).length := by show 5 < 7; decide
theorem fg_X4_6 (i : Nat → Int32) (p : Nat → Option Nat) : (qflds 4 i p)[6]? = some (.int (i 6)) := rfl
theorem fs_X4_6 (v : Int32) (i : Nat → Int32) (p : Nat → Option Nat) : qflds 4 (upd i 6 v) p = (qflds 4 i p).set 6 (.int v) := rfl
theorem ft_X4_6 (C : String) (T : u_T) (N : Nat) (h : vwCl[4]? = some (C, T, N)) : (T 6).2.2.2 = false ∧ parseFieldDescriptor (T 6).2.2.1 = some .int := by cases h; exact ⟨rfl, by decide +kernel⟩
theorem fn_X4_6 (i : Nat → Int32) (p : Nat → Option Nat) : 6 < (qflds 4 i p).length := by show 6 < 7; decide
set_option maxRecDepth 20000 in
theorem in_X5 : ∀ w ∈ u_ws RX5 TX5 6, w ∈ wW := by
  intro w hw
  obtain ⟨k, hk, rfl⟩ := List.mem_map.mp hw
  have hk := List.mem_range.mp hk
  match k, hk with
  | 0, _ => exact wW_at 229 (by rfl) (by rfl)
  | 1, _ => exact wW_at 231 (by rfl) (by rfl)
  | 2, _ => exact wW_at 233 (by rfl) (by rfl)
  | 3, _ => exact wW_at 235 (by rfl) (by rfl)
  | 4, _ => exact wW_at 237 (by rfl) (by rfl)
  | 5, _ => exact wW_at 239 (by rfl) (by rfl)
theorem fg_X5_0 (i : Nat → Int32) (p : Nat → Option Nat) : (qflds 5 i p)[0]? = some (.int (i 0)) := rfl
theorem fs_X5_0 (v : Int32) (i : Nat → Int32) (p : Nat → Option Nat) : qflds 5 (upd i 0 v) p = (qflds 5 i p).set 0 (.int v) := rfl
theorem ft_X5_0 (C : String) (T : u_T) (N : Nat) (h : vwCl[5]? = some (C, T, N)) : (T 0).2.2.2 = false ∧ parseFieldDescriptor (T 0).2.2.1 = some .int := by cases h; exact ⟨rfl, by decide +kernel⟩
theorem fn_X5_0 (i : Nat → Int32) (p : Nat → Option Nat) : 0 < (qflds 5 i p).length := by show 0 < 6; decide
theorem fg_X5_1 (i : Nat → Int32) (p : Nat → Option Nat) : (qflds 5 i p)[1]? = some (.int (i 1)) := rfl
theorem fs_X5_1 (v : Int32) (i : Nat → Int32) (p : Nat → Option Nat) : qflds 5 (upd i 1 v) p = (qflds 5 i p).set 1 (.int v) := rfl
theorem ft_X5_1 (C : String) (T : u_T) (N : Nat) (h : vwCl[5]? = some (C, T, N)) : (T 1).2.2.2 = false ∧ parseFieldDescriptor (T 1).2.2.1 = some .int := by cases h; exact ⟨rfl, by decide +kernel⟩
theorem fn_X5_1 (i : Nat → Int32) (p : Nat → Option Nat) : 1 < (qflds 5 i p).length := by show 1 < 6; decide
theorem fg_X5_2 (i : Nat → Int32) (p : Nat → Option Nat) : (qflds 5 i p)[2]? = some (va_rf (p 2)) := rfl
theorem fs_X5_2 (a : Nat) (i : Nat → Int32) (p : Nat → Option Nat) : qflds 5 i (va_up p 2 (some a)) = (qflds 5 i p).set 2 (.ref a) := rfl
theorem ft_X5_2 : qTY 5 2 true := by
  intro C T N h
  cases h
  exact ⟨rfl, rfl, .array .int, by decide +kernel, fun x => ⟨rfl, rfl⟩⟩
theorem fn_X5_2 (i : Nat → Int32) (p : Nat → Option Nat) : 2 < (qflds 5 i p).length := by show 2 < 6; decide
theorem fg_X5_3 (i : Nat → Int32) (p : Nat → Option Nat) : (qflds 5 i p)[3]? = some (va_rf (p 3)) := rfl
theorem fs_X5_3 (a : Nat) (i : Nat → Int32) (p : Nat → Option Nat) : qflds 5 i (va_up p 3 (some a)) = (qflds 5 i p).set 3 (.ref a) := rfl
theorem ft_X5_3 : qTY 5 3 true := by
  intro C T N h
  cases h
  exact ⟨rfl, rfl, .array .int, by decide +kernel, fun x => ⟨rfl, rfl⟩⟩
theorem fn_X5_3 (i : Nat → Int32) (p : Nat → Option Nat) : 3 < (qflds 5 i p).length := by show 3 < 6; decide
theorem fg_X5_4 (i : Nat → Int32) (p : Nat → Option Nat) : (qflds 5 i p)[4]? = some (va_rf (p 4)) := rfl
theorem fs_X5_4 (a : Nat) (i : Nat → Int32) (p : Nat → Option Nat) : qflds 5 i (va_up p 4 (some a)) = (qflds 5 i p).set 4 (.ref a) := rfl
theorem ft_X5_4 : qTY 5 4 true := by
  intro C T N h
  cases h
  exact ⟨rfl, rfl, .array .int, by decide +kernel, fun x => ⟨rfl, rfl⟩⟩
theorem fn_X5_4 (i : Nat → Int32) (p : Nat → Option Nat) : 4 < (qflds 5 i p).length := by show 4 < 6; decide
theorem fg_X5_5 (i : Nat → Int32) (p : Nat → Option Nat) : (qflds 5 i p)[5]? = some (va_rf (p 5)) := rfl
theorem fs_X5_5 (a : Nat) (i : Nat → Int32) (p : Nat → Option Nat) : qflds 5 i (va_up p 5 (some a)) = (qflds 5 i p).set 5 (.ref a) := rfl
theorem ft_X5_5 : qTY 5 5 true := by
  intro C T N h
  cases h
  exact ⟨rfl, rfl, .array .int, by decide +kernel, fun x => ⟨rfl, rfl⟩⟩
theorem fn_X5_5 (i : Nat → Int32) (p : Nat → Option Nat) : 5 < (qflds 5 i p).length := by show 5 < 6; decide
set_option maxRecDepth 20000 in
theorem in_X6 : ∀ w ∈ u_ws RX6 TX6 16, w ∈ wW := by
  intro w hw
  obtain ⟨k, hk, rfl⟩ := List.mem_map.mp hw
  have hk := List.mem_range.mp hk
  match k, hk with
  | 0, _ => exact wW_at 287 (by rfl) (by rfl)
  | 1, _ => exact wW_at 289 (by rfl) (by rfl)
  | 2, _ => exact wW_at 291 (by rfl) (by rfl)
  | 3, _ => exact wW_at 293 (by rfl) (by rfl)
  | 4, _ => exact wW_at 295 (by rfl) (by rfl)
  | 5, _ => exact wW_at 297 (by rfl) (by rfl)
  | 6, _ => exact wW_at 299 (by rfl) (by rfl)
  | 7, _ => exact wW_at 301 (by rfl) (by rfl)
  | 8, _ => exact wW_at 303 (by rfl) (by rfl)
  | 9, _ => exact wW_at 305 (by rfl) (by rfl)
  | 10, _ => exact wW_at 307 (by rfl) (by rfl)
  | 11, _ => exact wW_at 309 (by rfl) (by rfl)
  | 12, _ => exact wW_at 311 (by rfl) (by rfl)
  | 13, _ => exact wW_at 313 (by rfl) (by rfl)
  | 14, _ => exact wW_at 315 (by rfl) (by rfl)
  | 15, _ => exact wW_at 317 (by rfl) (by rfl)
  | k + 16, h => exact absurd h (by omega)
theorem fg_X6_0 (i : Nat → Int32) (p : Nat → Option Nat) : (qflds 6 i p)[0]? = some (va_rf (p 0)) := rfl
theorem fs_X6_0 (a : Nat) (i : Nat → Int32) (p : Nat → Option Nat) : qflds 6 i (va_up p 0 (some a)) = (qflds 6 i p).set 0 (.ref a) := rfl
theorem ft_X6_0 : qTY 6 0 false := by
  intro C T N h
  cases h
  exact ⟨rfl, rfl, .array (.object "TrainBook$Train"), by decide +kernel, fun x => ⟨rfl, rfl⟩⟩
theorem fn_X6_0 (i : Nat → Int32) (p : Nat → Option Nat) : 0 < (qflds 6 i p).length := by show 0 < 16; decide
theorem fg_X6_1 (i : Nat → Int32) (p : Nat → Option Nat) : (qflds 6 i p)[1]? = some (.int (i 1)) := rfl
theorem fs_X6_1 (v : Int32) (i : Nat → Int32) (p : Nat → Option Nat) : qflds 6 (upd i 1 v) p = (qflds 6 i p).set 1 (.int v) := rfl
theorem ft_X6_1 (C : String) (T : u_T) (N : Nat) (h : vwCl[6]? = some (C, T, N)) : (T 1).2.2.2 = false ∧ parseFieldDescriptor (T 1).2.2.1 = some .int := by cases h; exact ⟨rfl, by decide +kernel⟩
theorem fn_X6_1 (i : Nat → Int32) (p : Nat → Option Nat) : 1 < (qflds 6 i p).length := by show 1 < 16; decide
theorem fg_X6_2 (i : Nat → Int32) (p : Nat → Option Nat) : (qflds 6 i p)[2]? = some (.int (i 2)) := rfl
theorem fs_X6_2 (v : Int32) (i : Nat → Int32) (p : Nat → Option Nat) : qflds 6 (upd i 2 v) p = (qflds 6 i p).set 2 (.int v) := rfl
theorem ft_X6_2 (C : String) (T : u_T) (N : Nat) (h : vwCl[6]? = some (C, T, N)) : (T 2).2.2.2 = false ∧ parseFieldDescriptor (T 2).2.2.1 = some .int := by cases h; exact ⟨rfl, by decide +kernel⟩
theorem fn_X6_2 (i : Nat → Int32) (p : Nat → Option Nat) : 2 < (qflds 6 i p).length := by show 2 < 16; decide
theorem fg_X6_3 (i : Nat → Int32) (p : Nat → Option Nat) : (qflds 6 i p)[3]? = some (.int (i 3)) := rfl
theorem fs_X6_3 (v : Int32) (i : Nat → Int32) (p : Nat → Option Nat) : qflds 6 (upd i 3 v) p = (qflds 6 i p).set 3 (.int v) := rfl
theorem ft_X6_3 (C : String) (T : u_T) (N : Nat) (h : vwCl[6]? = some (C, T, N)) : (T 3).2.2.2 = false ∧ parseFieldDescriptor (T 3).2.2.1 = some .int := by cases h; exact ⟨rfl, by decide +kernel⟩
theorem fn_X6_3 (i : Nat → Int32) (p : Nat → Option Nat) : 3 < (qflds 6 i p).length := by show 3 < 16; decide
theorem fg_X6_4 (i : Nat → Int32) (p : Nat → Option Nat) : (qflds 6 i p)[4]? = some (va_rf (p 4)) := rfl
theorem fs_X6_4 (a : Nat) (i : Nat → Int32) (p : Nat → Option Nat) : qflds 6 i (va_up p 4 (some a)) = (qflds 6 i p).set 4 (.ref a) := rfl
theorem ft_X6_4 : qTY 6 4 true := by
  intro C T N h
  cases h
  exact ⟨rfl, rfl, .array .int, by decide +kernel, fun x => ⟨rfl, rfl⟩⟩
theorem fn_X6_4 (i : Nat → Int32) (p : Nat → Option Nat) : 4 < (qflds 6 i p).length := by show 4 < 16; decide
theorem fg_X6_5 (i : Nat → Int32) (p : Nat → Option Nat) : (qflds 6 i p)[5]? = some (va_rf (p 5)) := rfl
theorem fs_X6_5 (a : Nat) (i : Nat → Int32) (p : Nat → Option Nat) : qflds 6 i (va_up p 5 (some a)) = (qflds 6 i p).set 5 (.ref a) := rfl
theorem ft_X6_5 : qTY 6 5 true := by
  intro C T N h
  cases h
  exact ⟨rfl, rfl, .array .int, by decide +kernel, fun x => ⟨rfl, rfl⟩⟩
theorem fn_X6_5 (i : Nat → Int32) (p : Nat → Option Nat) : 5 < (qflds 6 i p).length := by show 5 < 16; decide
theorem fg_X6_6 (i : Nat → Int32) (p : Nat → Option Nat) : (qflds 6 i p)[6]? = some (.int (i 6)) := rfl
theorem fs_X6_6 (v : Int32) (i : Nat → Int32) (p : Nat → Option Nat) : qflds 6 (upd i 6 v) p = (qflds 6 i p).set 6 (.int v) := rfl
theorem ft_X6_6 (C : String) (T : u_T) (N : Nat) (h : vwCl[6]? = some (C, T, N)) : (T 6).2.2.2 = false ∧ parseFieldDescriptor (T 6).2.2.1 = some .int := by cases h; exact ⟨rfl, by decide +kernel⟩
theorem fn_X6_6 (i : Nat → Int32) (p : Nat → Option Nat) : 6 < (qflds 6 i p).length := by show 6 < 16; decide
theorem fg_X6_7 (i : Nat → Int32) (p : Nat → Option Nat) : (qflds 6 i p)[7]? = some (.int (i 7)) := rfl
theorem fs_X6_7 (v : Int32) (i : Nat → Int32) (p : Nat → Option Nat) : qflds 6 (upd i 7 v) p = (qflds 6 i p).set 7 (.int v) := rfl
theorem ft_X6_7 (C : String) (T : u_T) (N : Nat) (h : vwCl[6]? = some (C, T, N)) : (T 7).2.2.2 = false ∧ parseFieldDescriptor (T 7).2.2.1 = some .int := by cases h; exact ⟨rfl, by decide +kernel⟩
theorem fn_X6_7 (i : Nat → Int32) (p : Nat → Option Nat) : 7 < (qflds 6 i p).length := by show 7 < 16; decide
theorem fg_X6_8 (i : Nat → Int32) (p : Nat → Option Nat) : (qflds 6 i p)[8]? = some (va_rf (p 8)) := rfl
theorem fs_X6_8 (a : Nat) (i : Nat → Int32) (p : Nat → Option Nat) : qflds 6 i (va_up p 8 (some a)) = (qflds 6 i p).set 8 (.ref a) := rfl
theorem ft_X6_8 : qTY 6 8 true := by
  intro C T N h
  cases h
  exact ⟨rfl, rfl, .array .int, by decide +kernel, fun x => ⟨rfl, rfl⟩⟩
theorem fn_X6_8 (i : Nat → Int32) (p : Nat → Option Nat) : 8 < (qflds 6 i p).length := by show 8 < 16; decide
theorem fg_X6_9 (i : Nat → Int32) (p : Nat → Option Nat) : (qflds 6 i p)[9]? = some (va_rf (p 9)) := rfl
theorem fs_X6_9 (a : Nat) (i : Nat → Int32) (p : Nat → Option Nat) : qflds 6 i (va_up p 9 (some a)) = (qflds 6 i p).set 9 (.ref a) := rfl
theorem ft_X6_9 : qTY 6 9 true := by
  intro C T N h
  cases h
  exact ⟨rfl, rfl, .array .int, by decide +kernel, fun x => ⟨rfl, rfl⟩⟩
theorem fn_X6_9 (i : Nat → Int32) (p : Nat → Option Nat) : 9 < (qflds 6 i p).length := by show 9 < 16; decide
theorem fg_X6_10 (i : Nat → Int32) (p : Nat → Option Nat) : (qflds 6 i p)[10]? = some (va_rf (p 10)) := rfl
theorem fs_X6_10 (a : Nat) (i : Nat → Int32) (p : Nat → Option Nat) : qflds 6 i (va_up p 10 (some a)) = (qflds 6 i p).set 10 (.ref a) := rfl
theorem ft_X6_10 : qTY 6 10 true := by
  intro C T N h
  cases h
  exact ⟨rfl, rfl, .array .int, by decide +kernel, fun x => ⟨rfl, rfl⟩⟩
theorem fn_X6_10 (i : Nat → Int32) (p : Nat → Option Nat) : 10 < (qflds 6 i p).length := by show 10 < 16; decide
theorem fg_X6_11 (i : Nat → Int32) (p : Nat → Option Nat) : (qflds 6 i p)[11]? = some (va_rf (p 11)) := rfl
theorem fs_X6_11 (a : Nat) (i : Nat → Int32) (p : Nat → Option Nat) : qflds 6 i (va_up p 11 (some a)) = (qflds 6 i p).set 11 (.ref a) := rfl
theorem ft_X6_11 : qTY 6 11 true := by
  intro C T N h
  cases h
  exact ⟨rfl, rfl, .array .int, by decide +kernel, fun x => ⟨rfl, rfl⟩⟩
theorem fn_X6_11 (i : Nat → Int32) (p : Nat → Option Nat) : 11 < (qflds 6 i p).length := by show 11 < 16; decide
theorem fg_X6_12 (i : Nat → Int32) (p : Nat → Option Nat) : (qflds 6 i p)[12]? = some (va_rf (p 12)) := rfl
theorem fs_X6_12 (a : Nat) (i : Nat → Int32) (p : Nat → Option Nat) : qflds 6 i (va_up p 12 (some a)) = (qflds 6 i p).set 12 (.ref a) := rfl
theorem ft_X6_12 : qTY 6 12 true := by
  intro C T N h
  cases h
  exact ⟨rfl, rfl, .array .int, by decide +kernel, fun x => ⟨rfl, rfl⟩⟩
theorem fn_X6_12 (i : Nat → Int32) (p : Nat → Option Nat) : 12 < (qflds 6 i p).length := by show 12 < 16; decide
theorem fg_X6_13 (i : Nat → Int32) (p : Nat → Option Nat) : (qflds 6 i p)[13]? = some (.int (i 13)) := rfl
theorem fs_X6_13 (v : Int32) (i : Nat → Int32) (p : Nat → Option Nat) : qflds 6 (upd i 13 v) p = (qflds 6 i p).set 13 (.int v) := rfl
theorem ft_X6_13 (C : String) (T : u_T) (N : Nat) (h : vwCl[6]? = some (C, T, N)) : (T 13).2.2.2 = false ∧ parseFieldDescriptor (T 13).2.2.1 = some .int := by cases h; exact ⟨rfl, by decide +kernel⟩
theorem fn_X6_13 (i : Nat → Int32) (p : Nat → Option Nat) : 13 < (qflds 6 i p).length := by show 13 < 16; decide
theorem fg_X6_14 (i : Nat → Int32) (p : Nat → Option Nat) : (qflds 6 i p)[14]? = some (va_rf (p 14)) := rfl
theorem fs_X6_14 (a : Nat) (i : Nat → Int32) (p : Nat → Option Nat) : qflds 6 i (va_up p 14 (some a)) = (qflds 6 i p).set 14 (.ref a) := rfl
theorem ft_X6_14 : qTY 6 14 true := by
  intro C T N h
  cases h
  exact ⟨rfl, rfl, .array .int, by decide +kernel, fun x => ⟨rfl, rfl⟩⟩
theorem fn_X6_14 (i : Nat → Int32) (p : Nat → Option Nat) : 14 < (qflds 6 i p).length := by show 14 < 16; decide
theorem fg_X6_15 (i : Nat → Int32) (p : Nat → Option Nat) : (qflds 6 i p)[15]? = some (.int (i 15)) := rfl
theorem fs_X6_15 (v : Int32) (i : Nat → Int32) (p : Nat → Option Nat) : qflds 6 (upd i 15 v) p = (qflds 6 i p).set 15 (.int v) := rfl
theorem ft_X6_15 (C : String) (T : u_T) (N : Nat) (h : vwCl[6]? = some (C, T, N)) : (T 15).2.2.2 = false ∧ parseFieldDescriptor (T 15).2.2.1 = some .int := by cases h; exact ⟨rfl, by decide +kernel⟩
theorem fn_X6_15 (i : Nat → Int32) (p : Nat → Option Nat) : 15 < (qflds 6 i p).length := by show 15 < 16; decide
set_option maxRecDepth 20000 in
theorem in_X7 : ∀ w ∈ u_ws RX7 TX7 6, w ∈ wW := by
  intro w hw
  obtain ⟨k, hk, rfl⟩ := List.mem_map.mp hw
  have hk := List.mem_range.mp hk
  match k, hk with
  | 0, _ => exact wW_at 327 (by rfl) (by rfl)
  | 1, _ => exact wW_at 329 (by rfl) (by rfl)
  | 2, _ => exact wW_at 331 (by rfl) (by rfl)
  | 3, _ => exact wW_at 333 (by rfl) (by rfl)
  | 4, _ => exact wW_at 335 (by rfl) (by rfl)
  | 5, _ => exact wW_at 337 (by rfl) (by rfl)
theorem fg_X7_0 (i : Nat → Int32) (p : Nat → Option Nat) : (qflds 7 i p)[0]? = some (va_rf (p 0)) := rfl
theorem fs_X7_0 (a : Nat) (i : Nat → Int32) (p : Nat → Option Nat) : qflds 7 i (va_up p 0 (some a)) = (qflds 7 i p).set 0 (.ref a) := rfl
theorem ft_X7_0 : qTY 7 0 true := by
  intro C T N h
  cases h
  exact ⟨rfl, rfl, .array (.object "TrainBook$Train"), by decide +kernel, fun x => ⟨rfl, rfl⟩⟩
theorem fn_X7_0 (i : Nat → Int32) (p : Nat → Option Nat) : 0 < (qflds 7 i p).length := by show 0 < 6; decide
theorem fg_X7_1 (i : Nat → Int32) (p : Nat → Option Nat) : (qflds 7 i p)[1]? = some (va_rf (p 1)) := rfl
theorem fs_X7_1 (a : Nat) (i : Nat → Int32) (p : Nat → Option Nat) : qflds 7 i (va_up p 1 (some a)) = (qflds 7 i p).set 1 (.ref a) := rfl
theorem ft_X7_1 : qTY 7 1 true := by
  intro C T N h
  cases h
  exact ⟨rfl, rfl, .object "TrainBook$SignBook", by decide +kernel, fun x => ⟨rfl, rfl⟩⟩
theorem fn_X7_1 (i : Nat → Int32) (p : Nat → Option Nat) : 1 < (qflds 7 i p).length := by show 1 < 6; decide
theorem fg_X7_2 (i : Nat → Int32) (p : Nat → Option Nat) : (qflds 7 i p)[2]? = some (va_rf (p 2)) := rfl
theorem fs_X7_2 (a : Nat) (i : Nat → Int32) (p : Nat → Option Nat) : qflds 7 i (va_up p 2 (some a)) = (qflds 7 i p).set 2 (.ref a) := rfl
theorem ft_X7_2 : qTY 7 2 true := by
  intro C T N h
  cases h
  exact ⟨rfl, rfl, .object "TrainBook$Table", by decide +kernel, fun x => ⟨rfl, rfl⟩⟩
theorem fn_X7_2 (i : Nat → Int32) (p : Nat → Option Nat) : 2 < (qflds 7 i p).length := by show 2 < 6; decide
theorem fg_X7_3 (i : Nat → Int32) (p : Nat → Option Nat) : (qflds 7 i p)[3]? = some (va_rf (p 3)) := rfl
theorem fs_X7_3 (a : Nat) (i : Nat → Int32) (p : Nat → Option Nat) : qflds 7 i (va_up p 3 (some a)) = (qflds 7 i p).set 3 (.ref a) := rfl
theorem ft_X7_3 : qTY 7 3 true := by
  intro C T N h
  cases h
  exact ⟨rfl, rfl, .object "TrainBook$WayFinder", by decide +kernel, fun x => ⟨rfl, rfl⟩⟩
theorem fn_X7_3 (i : Nat → Int32) (p : Nat → Option Nat) : 3 < (qflds 7 i p).length := by show 3 < 6; decide
theorem fg_X7_4 (i : Nat → Int32) (p : Nat → Option Nat) : (qflds 7 i p)[4]? = some (.int (i 4)) := rfl
theorem fs_X7_4 (v : Int32) (i : Nat → Int32) (p : Nat → Option Nat) : qflds 7 (upd i 4 v) p = (qflds 7 i p).set 4 (.int v) := rfl
theorem ft_X7_4 (C : String) (T : u_T) (N : Nat) (h : vwCl[7]? = some (C, T, N)) : (T 4).2.2.2 = false ∧ parseFieldDescriptor (T 4).2.2.1 = some .int := by cases h; exact ⟨rfl, by decide +kernel⟩
theorem fn_X7_4 (i : Nat → Int32) (p : Nat → Option Nat) : 4 < (qflds 7 i p).length := by show 4 < 6; decide
theorem fg_X7_5 (i : Nat → Int32) (p : Nat → Option Nat) : (qflds 7 i p)[5]? = some (.int (i 5)) := rfl
theorem fs_X7_5 (v : Int32) (i : Nat → Int32) (p : Nat → Option Nat) : qflds 7 (upd i 5 v) p = (qflds 7 i p).set 5 (.int v) := rfl
theorem ft_X7_5 (C : String) (T : u_T) (N : Nat) (h : vwCl[7]? = some (C, T, N)) : (T 5).2.2.2 = false ∧ parseFieldDescriptor (T 5).2.2.1 = some .int := by cases h; exact ⟨rfl, by decide +kernel⟩
theorem fn_X7_5 (i : Nat → Int32) (p : Nat → Option Nat) : 5 < (qflds 7 i p).length := by show 5 < 6; decide
set_option maxRecDepth 20000 in
theorem in_X8 : ∀ w ∈ u_ws RX8 TX8 35, w ∈ wW := by
  intro w hw
  obtain ⟨k, hk, rfl⟩ := List.mem_map.mp hw
  have hk := List.mem_range.mp hk
  match k, hk with
  | 0, _ => exact wW_at 815 (by rfl) (by rfl)
  | 1, _ => exact wW_at 817 (by rfl) (by rfl)
  | 2, _ => exact wW_at 819 (by rfl) (by rfl)
  | 3, _ => exact wW_at 821 (by rfl) (by rfl)
  | 4, _ => exact wW_at 823 (by rfl) (by rfl)
  | 5, _ => exact wW_at 825 (by rfl) (by rfl)
  | 6, _ => exact wW_at 827 (by rfl) (by rfl)
  | 7, _ => exact wW_at 829 (by rfl) (by rfl)
  | 8, _ => exact wW_at 831 (by rfl) (by rfl)
  | 9, _ => exact wW_at 833 (by rfl) (by rfl)
  | 10, _ => exact wW_at 835 (by rfl) (by rfl)
  | 11, _ => exact wW_at 837 (by rfl) (by rfl)
  | 12, _ => exact wW_at 839 (by rfl) (by rfl)
  | 13, _ => exact wW_at 841 (by rfl) (by rfl)
  | 14, _ => exact wW_at 843 (by rfl) (by rfl)
  | 15, _ => exact wW_at 845 (by rfl) (by rfl)
  | 16, _ => exact wW_at 847 (by rfl) (by rfl)
  | 17, _ => exact wW_at 849 (by rfl) (by rfl)
  | 18, _ => exact wW_at 851 (by rfl) (by rfl)
  | 19, _ => exact wW_at 853 (by rfl) (by rfl)
  | 20, _ => exact wW_at 855 (by rfl) (by rfl)
  | 21, _ => exact wW_at 857 (by rfl) (by rfl)
  | 22, _ => exact wW_at 859 (by rfl) (by rfl)
  | 23, _ => exact wW_at 861 (by rfl) (by rfl)
  | 24, _ => exact wW_at 863 (by rfl) (by rfl)
  | 25, _ => exact wW_at 865 (by rfl) (by rfl)
  | 26, _ => exact wW_at 867 (by rfl) (by rfl)
  | 27, _ => exact wW_at 869 (by rfl) (by rfl)
  | 28, _ => exact wW_at 871 (by rfl) (by rfl)
  | 29, _ => exact wW_at 873 (by rfl) (by rfl)
  | 30, _ => exact wW_at 875 (by rfl) (by rfl)
  | 31, _ => exact wW_at 877 (by rfl) (by rfl)
  | 32, _ => exact wW_at 879 (by rfl) (by rfl)
  | 33, _ => exact wW_at 881 (by rfl) (by rfl)
  | 34, _ => exact wW_at 883 (by rfl) (by rfl)
  | k + 35, h => exact absurd h (by omega)
theorem fg_X8_0 (i : Nat → Int32) (p : Nat → Option Nat) : (qflds 8 i p)[0]? = some (.int (i 0)) := rfl
theorem fs_X8_0 (v : Int32) (i : Nat → Int32) (p : Nat → Option Nat) : qflds 8 (upd i 0 v) p = (qflds 8 i p).set 0 (.int v) := rfl
theorem ft_X8_0 (C : String) (T : u_T) (N : Nat) (h : vwCl[8]? = some (C, T, N)) : (T 0).2.2.2 = false ∧ parseFieldDescriptor (T 0).2.2.1 = some .int := by cases h; exact ⟨rfl, by decide +kernel⟩
theorem fn_X8_0 (i : Nat → Int32) (p : Nat → Option Nat) : 0 < (qflds 8 i p).length := by show 0 < 35; decide
theorem fg_X8_1 (i : Nat → Int32) (p : Nat → Option Nat) : (qflds 8 i p)[1]? = some (.int (i 1)) := rfl
theorem fs_X8_1 (v : Int32) (i : Nat → Int32) (p : Nat → Option Nat) : qflds 8 (upd i 1 v) p = (qflds 8 i p).set 1 (.int v) := rfl
theorem ft_X8_1 (C : String) (T : u_T) (N : Nat) (h : vwCl[8]? = some (C, T, N)) : (T 1).2.2.2 = false ∧ parseFieldDescriptor (T 1).2.2.1 = some .int := by cases h; exact ⟨rfl, by decide +kernel⟩
theorem fn_X8_1 (i : Nat → Int32) (p : Nat → Option Nat) : 1 < (qflds 8 i p).length := by show 1 < 35; decide
theorem fg_X8_2 (i : Nat → Int32) (p : Nat → Option Nat) : (qflds 8 i p)[2]? = some (.int (i 2)) := rfl
theorem fs_X8_2 (v : Int32) (i : Nat → Int32) (p : Nat → Option Nat) : qflds 8 (upd i 2 v) p = (qflds 8 i p).set 2 (.int v) := rfl
theorem ft_X8_2 (C : String) (T : u_T) (N : Nat) (h : vwCl[8]? = some (C, T, N)) : (T 2).2.2.2 = false ∧ parseFieldDescriptor (T 2).2.2.1 = some .int := by cases h; exact ⟨rfl, by decide +kernel⟩
theorem fn_X8_2 (i : Nat → Int32) (p : Nat → Option Nat) : 2 < (qflds 8 i p).length := by show 2 < 35; decide
theorem fg_X8_3 (i : Nat → Int32) (p : Nat → Option Nat) : (qflds 8 i p)[3]? = some (va_rf (p 3)) := rfl
theorem fs_X8_3 (a : Nat) (i : Nat → Int32) (p : Nat → Option Nat) : qflds 8 i (va_up p 3 (some a)) = (qflds 8 i p).set 3 (.ref a) := rfl
theorem ft_X8_3 : qTY 8 3 true := by
  intro C T N h
  cases h
  exact ⟨rfl, rfl, .array .int, by decide +kernel, fun x => ⟨rfl, rfl⟩⟩
theorem fn_X8_3 (i : Nat → Int32) (p : Nat → Option Nat) : 3 < (qflds 8 i p).length := by show 3 < 35; decide
theorem fg_X8_4 (i : Nat → Int32) (p : Nat → Option Nat) : (qflds 8 i p)[4]? = some (va_rf (p 4)) := rfl
theorem fs_X8_4 (a : Nat) (i : Nat → Int32) (p : Nat → Option Nat) : qflds 8 i (va_up p 4 (some a)) = (qflds 8 i p).set 4 (.ref a) := rfl
theorem ft_X8_4 : qTY 8 4 true := by
  intro C T N h
  cases h
  exact ⟨rfl, rfl, .array .int, by decide +kernel, fun x => ⟨rfl, rfl⟩⟩
theorem fn_X8_4 (i : Nat → Int32) (p : Nat → Option Nat) : 4 < (qflds 8 i p).length := by show 4 < 35; decide
theorem fg_X8_5 (i : Nat → Int32) (p : Nat → Option Nat) : (qflds 8 i p)[5]? = some (va_rf (p 5)) := rfl
theorem fs_X8_5 (a : Nat) (i : Nat → Int32) (p : Nat → Option Nat) : qflds 8 i (va_up p 5 (some a)) = (qflds 8 i p).set 5 (.ref a) := rfl
theorem ft_X8_5 : qTY 8 5 true := by
  intro C T N h
  cases h
  exact ⟨rfl, rfl, .array .int, by decide +kernel, fun x => ⟨rfl, rfl⟩⟩
theorem fn_X8_5 (i : Nat → Int32) (p : Nat → Option Nat) : 5 < (qflds 8 i p).length := by show 5 < 35; decide
theorem fg_X8_6 (i : Nat → Int32) (p : Nat → Option Nat) : (qflds 8 i p)[6]? = some (va_rf (p 6)) := rfl
theorem fs_X8_6 (a : Nat) (i : Nat → Int32) (p : Nat → Option Nat) : qflds 8 i (va_up p 6 (some a)) = (qflds 8 i p).set 6 (.ref a) := rfl
theorem ft_X8_6 : qTY 8 6 true := by
  intro C T N h
  cases h
  exact ⟨rfl, rfl, .array .int, by decide +kernel, fun x => ⟨rfl, rfl⟩⟩
theorem fn_X8_6 (i : Nat → Int32) (p : Nat → Option Nat) : 6 < (qflds 8 i p).length := by show 6 < 35; decide
theorem fg_X8_7 (i : Nat → Int32) (p : Nat → Option Nat) : (qflds 8 i p)[7]? = some (va_rf (p 7)) := rfl
theorem fs_X8_7 (a : Nat) (i : Nat → Int32) (p : Nat → Option Nat) : qflds 8 i (va_up p 7 (some a)) = (qflds 8 i p).set 7 (.ref a) := rfl
theorem ft_X8_7 : qTY 8 7 true := by
  intro C T N h
  cases h
  exact ⟨rfl, rfl, .array .int, by decide +kernel, fun x => ⟨rfl, rfl⟩⟩
theorem fn_X8_7 (i : Nat → Int32) (p : Nat → Option Nat) : 7 < (qflds 8 i p).length := by show 7 < 35; decide
theorem fg_X8_8 (i : Nat → Int32) (p : Nat → Option Nat) : (qflds 8 i p)[8]? = some (va_rf (p 8)) := rfl
theorem fs_X8_8 (a : Nat) (i : Nat → Int32) (p : Nat → Option Nat) : qflds 8 i (va_up p 8 (some a)) = (qflds 8 i p).set 8 (.ref a) := rfl
theorem ft_X8_8 : qTY 8 8 true := by
  intro C T N h
  cases h
  exact ⟨rfl, rfl, .array .int, by decide +kernel, fun x => ⟨rfl, rfl⟩⟩
theorem fn_X8_8 (i : Nat → Int32) (p : Nat → Option Nat) : 8 < (qflds 8 i p).length := by show 8 < 35; decide
theorem fg_X8_9 (i : Nat → Int32) (p : Nat → Option Nat) : (qflds 8 i p)[9]? = some (.int (i 9)) := rfl
theorem fs_X8_9 (v : Int32) (i : Nat → Int32) (p : Nat → Option Nat) : qflds 8 (upd i 9 v) p = (qflds 8 i p).set 9 (.int v) := rfl
theorem ft_X8_9 (C : String) (T : u_T) (N : Nat) (h : vwCl[8]? = some (C, T, N)) : (T 9).2.2.2 = false ∧ parseFieldDescriptor (T 9).2.2.1 = some .int := by cases h; exact ⟨rfl, by decide +kernel⟩
theorem fn_X8_9 (i : Nat → Int32) (p : Nat → Option Nat) : 9 < (qflds 8 i p).length := by show 9 < 35; decide
theorem fg_X8_10 (i : Nat → Int32) (p : Nat → Option Nat) : (qflds 8 i p)[10]? = some (.int (i 10)) := rfl
theorem fs_X8_10 (v : Int32) (i : Nat → Int32) (p : Nat → Option Nat) : qflds 8 (upd i 10 v) p = (qflds 8 i p).set 10 (.int v) := rfl
theorem ft_X8_10 (C : String) (T : u_T) (N : Nat) (h : vwCl[8]? = some (C, T, N)) : (T 10).2.2.2 = false ∧ parseFieldDescriptor (T 10).2.2.1 = some .int := by cases h; exact ⟨rfl, by decide +kernel⟩
theorem fn_X8_10 (i : Nat → Int32) (p : Nat → Option Nat) : 10 < (qflds 8 i p).length := by show 10 < 35; decide
theorem fg_X8_11 (i : Nat → Int32) (p : Nat → Option Nat) : (qflds 8 i p)[11]? = some (va_rf (p 11)) := rfl
theorem fs_X8_11 (a : Nat) (i : Nat → Int32) (p : Nat → Option Nat) : qflds 8 i (va_up p 11 (some a)) = (qflds 8 i p).set 11 (.ref a) := rfl
theorem ft_X8_11 : qTY 8 11 true := by
  intro C T N h
  cases h
  exact ⟨rfl, rfl, .array .int, by decide +kernel, fun x => ⟨rfl, rfl⟩⟩
theorem fn_X8_11 (i : Nat → Int32) (p : Nat → Option Nat) : 11 < (qflds 8 i p).length := by show 11 < 35; decide
theorem fg_X8_12 (i : Nat → Int32) (p : Nat → Option Nat) : (qflds 8 i p)[12]? = some (va_rf (p 12)) := rfl
theorem fs_X8_12 (a : Nat) (i : Nat → Int32) (p : Nat → Option Nat) : qflds 8 i (va_up p 12 (some a)) = (qflds 8 i p).set 12 (.ref a) := rfl
theorem ft_X8_12 : qTY 8 12 true := by
  intro C T N h
  cases h
  exact ⟨rfl, rfl, .array .int, by decide +kernel, fun x => ⟨rfl, rfl⟩⟩
theorem fn_X8_12 (i : Nat → Int32) (p : Nat → Option Nat) : 12 < (qflds 8 i p).length := by show 12 < 35; decide
theorem fg_X8_13 (i : Nat → Int32) (p : Nat → Option Nat) : (qflds 8 i p)[13]? = some (va_rf (p 13)) := rfl
theorem fs_X8_13 (a : Nat) (i : Nat → Int32) (p : Nat → Option Nat) : qflds 8 i (va_up p 13 (some a)) = (qflds 8 i p).set 13 (.ref a) := rfl
theorem ft_X8_13 : qTY 8 13 true := by
  intro C T N h
  cases h
  exact ⟨rfl, rfl, .array .int, by decide +kernel, fun x => ⟨rfl, rfl⟩⟩
theorem fn_X8_13 (i : Nat → Int32) (p : Nat → Option Nat) : 13 < (qflds 8 i p).length := by show 13 < 35; decide
theorem fg_X8_14 (i : Nat → Int32) (p : Nat → Option Nat) : (qflds 8 i p)[14]? = some (va_rf (p 14)) := rfl
theorem fs_X8_14 (a : Nat) (i : Nat → Int32) (p : Nat → Option Nat) : qflds 8 i (va_up p 14 (some a)) = (qflds 8 i p).set 14 (.ref a) := rfl
theorem ft_X8_14 : qTY 8 14 true := by
  intro C T N h
  cases h
  exact ⟨rfl, rfl, .array .int, by decide +kernel, fun x => ⟨rfl, rfl⟩⟩
theorem fn_X8_14 (i : Nat → Int32) (p : Nat → Option Nat) : 14 < (qflds 8 i p).length := by show 14 < 35; decide
theorem fg_X8_15 (i : Nat → Int32) (p : Nat → Option Nat) : (qflds 8 i p)[15]? = some (va_rf (p 15)) := rfl
theorem fs_X8_15 (a : Nat) (i : Nat → Int32) (p : Nat → Option Nat) : qflds 8 i (va_up p 15 (some a)) = (qflds 8 i p).set 15 (.ref a) := rfl
theorem ft_X8_15 : qTY 8 15 true := by
  intro C T N h
  cases h
  exact ⟨rfl, rfl, .array .int, by decide +kernel, fun x => ⟨rfl, rfl⟩⟩
theorem fn_X8_15 (i : Nat → Int32) (p : Nat → Option Nat) : 15 < (qflds 8 i p).length := by show 15 < 35; decide
theorem fg_X8_16 (i : Nat → Int32) (p : Nat → Option Nat) : (qflds 8 i p)[16]? = some (va_rf (p 16)) := rfl
theorem fs_X8_16 (a : Nat) (i : Nat → Int32) (p : Nat → Option Nat) : qflds 8 i (va_up p 16 (some a)) = (qflds 8 i p).set 16 (.ref a) := rfl
theorem ft_X8_16 : qTY 8 16 true := by
  intro C T N h
  cases h
  exact ⟨rfl, rfl, .array .int, by decide +kernel, fun x => ⟨rfl, rfl⟩⟩
theorem fn_X8_16 (i : Nat → Int32) (p : Nat → Option Nat) : 16 < (qflds 8 i p).length := by show 16 < 35; decide
theorem fg_X8_17 (i : Nat → Int32) (p : Nat → Option Nat) : (qflds 8 i p)[17]? = some (va_rf (p 17)) := rfl
theorem fs_X8_17 (a : Nat) (i : Nat → Int32) (p : Nat → Option Nat) : qflds 8 i (va_up p 17 (some a)) = (qflds 8 i p).set 17 (.ref a) := rfl
theorem ft_X8_17 : qTY 8 17 true := by
  intro C T N h
  cases h
  exact ⟨rfl, rfl, .array .int, by decide +kernel, fun x => ⟨rfl, rfl⟩⟩
theorem fn_X8_17 (i : Nat → Int32) (p : Nat → Option Nat) : 17 < (qflds 8 i p).length := by show 17 < 35; decide
theorem fg_X8_18 (i : Nat → Int32) (p : Nat → Option Nat) : (qflds 8 i p)[18]? = some (va_rf (p 18)) := rfl
theorem fs_X8_18 (a : Nat) (i : Nat → Int32) (p : Nat → Option Nat) : qflds 8 i (va_up p 18 (some a)) = (qflds 8 i p).set 18 (.ref a) := rfl
theorem ft_X8_18 : qTY 8 18 true := by
  intro C T N h
  cases h
  exact ⟨rfl, rfl, .array .int, by decide +kernel, fun x => ⟨rfl, rfl⟩⟩
theorem fn_X8_18 (i : Nat → Int32) (p : Nat → Option Nat) : 18 < (qflds 8 i p).length := by show 18 < 35; decide
theorem fg_X8_19 (i : Nat → Int32) (p : Nat → Option Nat) : (qflds 8 i p)[19]? = some (va_rf (p 19)) := rfl
theorem fs_X8_19 (a : Nat) (i : Nat → Int32) (p : Nat → Option Nat) : qflds 8 i (va_up p 19 (some a)) = (qflds 8 i p).set 19 (.ref a) := rfl
theorem ft_X8_19 : qTY 8 19 true := by
  intro C T N h
  cases h
  exact ⟨rfl, rfl, .array .int, by decide +kernel, fun x => ⟨rfl, rfl⟩⟩
theorem fn_X8_19 (i : Nat → Int32) (p : Nat → Option Nat) : 19 < (qflds 8 i p).length := by show 19 < 35; decide
theorem fg_X8_20 (i : Nat → Int32) (p : Nat → Option Nat) : (qflds 8 i p)[20]? = some (.int (i 20)) := rfl
theorem fs_X8_20 (v : Int32) (i : Nat → Int32) (p : Nat → Option Nat) : qflds 8 (upd i 20 v) p = (qflds 8 i p).set 20 (.int v) := rfl
theorem ft_X8_20 (C : String) (T : u_T) (N : Nat) (h : vwCl[8]? = some (C, T, N)) : (T 20).2.2.2 = false ∧ parseFieldDescriptor (T 20).2.2.1 = some .int := by cases h; exact ⟨rfl, by decide +kernel⟩
theorem fn_X8_20 (i : Nat → Int32) (p : Nat → Option Nat) : 20 < (qflds 8 i p).length := by show 20 < 35; decide
theorem fg_X8_21 (i : Nat → Int32) (p : Nat → Option Nat) : (qflds 8 i p)[21]? = some (va_rf (p 21)) := rfl
theorem fs_X8_21 (a : Nat) (i : Nat → Int32) (p : Nat → Option Nat) : qflds 8 i (va_up p 21 (some a)) = (qflds 8 i p).set 21 (.ref a) := rfl
theorem ft_X8_21 : qTY 8 21 true := by
  intro C T N h
  cases h
  exact ⟨rfl, rfl, .array .int, by decide +kernel, fun x => ⟨rfl, rfl⟩⟩
theorem fn_X8_21 (i : Nat → Int32) (p : Nat → Option Nat) : 21 < (qflds 8 i p).length := by show 21 < 35; decide
theorem fg_X8_22 (i : Nat → Int32) (p : Nat → Option Nat) : (qflds 8 i p)[22]? = some (va_rf (p 22)) := rfl
theorem fs_X8_22 (a : Nat) (i : Nat → Int32) (p : Nat → Option Nat) : qflds 8 i (va_up p 22 (some a)) = (qflds 8 i p).set 22 (.ref a) := rfl
theorem ft_X8_22 : qTY 8 22 true := by
  intro C T N h
  cases h
  exact ⟨rfl, rfl, .array .int, by decide +kernel, fun x => ⟨rfl, rfl⟩⟩
theorem fn_X8_22 (i : Nat → Int32) (p : Nat → Option Nat) : 22 < (qflds 8 i p).length := by show 22 < 35; decide
theorem fg_X8_23 (i : Nat → Int32) (p : Nat → Option Nat) : (qflds 8 i p)[23]? = some (va_rf (p 23)) := rfl
theorem fs_X8_23 (a : Nat) (i : Nat → Int32) (p : Nat → Option Nat) : qflds 8 i (va_up p 23 (some a)) = (qflds 8 i p).set 23 (.ref a) := rfl
theorem ft_X8_23 : qTY 8 23 true := by
  intro C T N h
  cases h
  exact ⟨rfl, rfl, .array .boolean, by decide +kernel, fun x => ⟨rfl, rfl⟩⟩
theorem fn_X8_23 (i : Nat → Int32) (p : Nat → Option Nat) : 23 < (qflds 8 i p).length := by show 23 < 35; decide
theorem fg_X8_24 (i : Nat → Int32) (p : Nat → Option Nat) : (qflds 8 i p)[24]? = some (va_rf (p 24)) := rfl
theorem fs_X8_24 (a : Nat) (i : Nat → Int32) (p : Nat → Option Nat) : qflds 8 i (va_up p 24 (some a)) = (qflds 8 i p).set 24 (.ref a) := rfl
theorem ft_X8_24 : qTY 8 24 true := by
  intro C T N h
  cases h
  exact ⟨rfl, rfl, .array .boolean, by decide +kernel, fun x => ⟨rfl, rfl⟩⟩
theorem fn_X8_24 (i : Nat → Int32) (p : Nat → Option Nat) : 24 < (qflds 8 i p).length := by show 24 < 35; decide
theorem fg_X8_25 (i : Nat → Int32) (p : Nat → Option Nat) : (qflds 8 i p)[25]? = some (.int (i 25)) := rfl
theorem fs_X8_25 (v : Int32) (i : Nat → Int32) (p : Nat → Option Nat) : qflds 8 (upd i 25 v) p = (qflds 8 i p).set 25 (.int v) := rfl
theorem ft_X8_25 (C : String) (T : u_T) (N : Nat) (h : vwCl[8]? = some (C, T, N)) : (T 25).2.2.2 = false ∧ parseFieldDescriptor (T 25).2.2.1 = some .int := by cases h; exact ⟨rfl, by decide +kernel⟩
theorem fn_X8_25 (i : Nat → Int32) (p : Nat → Option Nat) : 25 < (qflds 8 i p).length := by show 25 < 35; decide
theorem fg_X8_26 (i : Nat → Int32) (p : Nat → Option Nat) : (qflds 8 i p)[26]? = some (.int (i 26)) := rfl
theorem fs_X8_26 (v : Int32) (i : Nat → Int32) (p : Nat → Option Nat) : qflds 8 (upd i 26 v) p = (qflds 8 i p).set 26 (.int v) := rfl
theorem ft_X8_26 (C : String) (T : u_T) (N : Nat) (h : vwCl[8]? = some (C, T, N)) : (T 26).2.2.2 = false ∧ parseFieldDescriptor (T 26).2.2.1 = some .int := by cases h; exact ⟨rfl, by decide +kernel⟩
theorem fn_X8_26 (i : Nat → Int32) (p : Nat → Option Nat) : 26 < (qflds 8 i p).length := by show 26 < 35; decide
theorem fg_X8_27 (i : Nat → Int32) (p : Nat → Option Nat) : (qflds 8 i p)[27]? = some (va_rf (p 27)) := rfl
theorem fs_X8_27 (a : Nat) (i : Nat → Int32) (p : Nat → Option Nat) : qflds 8 i (va_up p 27 (some a)) = (qflds 8 i p).set 27 (.ref a) := rfl
theorem ft_X8_27 : qTY 8 27 true := by
  intro C T N h
  cases h
  exact ⟨rfl, rfl, .array .int, by decide +kernel, fun x => ⟨rfl, rfl⟩⟩
theorem fn_X8_27 (i : Nat → Int32) (p : Nat → Option Nat) : 27 < (qflds 8 i p).length := by show 27 < 35; decide
theorem fg_X8_28 (i : Nat → Int32) (p : Nat → Option Nat) : (qflds 8 i p)[28]? = some (va_rf (p 28)) := rfl
theorem fs_X8_28 (a : Nat) (i : Nat → Int32) (p : Nat → Option Nat) : qflds 8 i (va_up p 28 (some a)) = (qflds 8 i p).set 28 (.ref a) := rfl
theorem ft_X8_28 : qTY 8 28 true := by
  intro C T N h
  cases h
  exact ⟨rfl, rfl, .array .int, by decide +kernel, fun x => ⟨rfl, rfl⟩⟩
theorem fn_X8_28 (i : Nat → Int32) (p : Nat → Option Nat) : 28 < (qflds 8 i p).length := by show 28 < 35; decide
theorem fg_X8_29 (i : Nat → Int32) (p : Nat → Option Nat) : (qflds 8 i p)[29]? = some (va_rf (p 29)) := rfl
theorem fs_X8_29 (a : Nat) (i : Nat → Int32) (p : Nat → Option Nat) : qflds 8 i (va_up p 29 (some a)) = (qflds 8 i p).set 29 (.ref a) := rfl
theorem ft_X8_29 : qTY 8 29 true := by
  intro C T N h
  cases h
  exact ⟨rfl, rfl, .array .int, by decide +kernel, fun x => ⟨rfl, rfl⟩⟩
theorem fn_X8_29 (i : Nat → Int32) (p : Nat → Option Nat) : 29 < (qflds 8 i p).length := by show 29 < 35; decide
theorem fg_X8_30 (i : Nat → Int32) (p : Nat → Option Nat) : (qflds 8 i p)[30]? = some (va_rf (p 30)) := rfl
theorem fs_X8_30 (a : Nat) (i : Nat → Int32) (p : Nat → Option Nat) : qflds 8 i (va_up p 30 (some a)) = (qflds 8 i p).set 30 (.ref a) := rfl
theorem ft_X8_30 : qTY 8 30 true := by
  intro C T N h
  cases h
  exact ⟨rfl, rfl, .array .boolean, by decide +kernel, fun x => ⟨rfl, rfl⟩⟩
theorem fn_X8_30 (i : Nat → Int32) (p : Nat → Option Nat) : 30 < (qflds 8 i p).length := by show 30 < 35; decide
theorem fg_X8_31 (i : Nat → Int32) (p : Nat → Option Nat) : (qflds 8 i p)[31]? = some (va_rf (p 31)) := rfl
theorem fs_X8_31 (a : Nat) (i : Nat → Int32) (p : Nat → Option Nat) : qflds 8 i (va_up p 31 (some a)) = (qflds 8 i p).set 31 (.ref a) := rfl
theorem ft_X8_31 : qTY 8 31 true := by
  intro C T N h
  cases h
  exact ⟨rfl, rfl, .array .boolean, by decide +kernel, fun x => ⟨rfl, rfl⟩⟩
theorem fn_X8_31 (i : Nat → Int32) (p : Nat → Option Nat) : 31 < (qflds 8 i p).length := by show 31 < 35; decide
theorem fg_X8_32 (i : Nat → Int32) (p : Nat → Option Nat) : (qflds 8 i p)[32]? = some (va_rf (p 32)) := rfl
theorem fs_X8_32 (a : Nat) (i : Nat → Int32) (p : Nat → Option Nat) : qflds 8 i (va_up p 32 (some a)) = (qflds 8 i p).set 32 (.ref a) := rfl
theorem ft_X8_32 : qTY 8 32 true := by
  intro C T N h
  cases h
  exact ⟨rfl, rfl, .array .boolean, by decide +kernel, fun x => ⟨rfl, rfl⟩⟩
theorem fn_X8_32 (i : Nat → Int32) (p : Nat → Option Nat) : 32 < (qflds 8 i p).length := by show 32 < 35; decide
theorem fg_X8_33 (i : Nat → Int32) (p : Nat → Option Nat) : (qflds 8 i p)[33]? = some (.int (i 33)) := rfl
theorem fs_X8_33 (v : Int32) (i : Nat → Int32) (p : Nat → Option Nat) : qflds 8 (upd i 33 v) p = (qflds 8 i p).set 33 (.int v) := rfl
theorem ft_X8_33 (C : String) (T : u_T) (N : Nat) (h : vwCl[8]? = some (C, T, N)) : (T 33).2.2.2 = false ∧ parseFieldDescriptor (T 33).2.2.1 = some .int := by cases h; exact ⟨rfl, by decide +kernel⟩
theorem fn_X8_33 (i : Nat → Int32) (p : Nat → Option Nat) : 33 < (qflds 8 i p).length := by show 33 < 35; decide
theorem fg_X8_34 (i : Nat → Int32) (p : Nat → Option Nat) : (qflds 8 i p)[34]? = some (va_rf (p 34)) := rfl
theorem fs_X8_34 (a : Nat) (i : Nat → Int32) (p : Nat → Option Nat) : qflds 8 i (va_up p 34 (some a)) = (qflds 8 i p).set 34 (.ref a) := rfl
theorem ft_X8_34 : qTY 8 34 true := by
  intro C T N h
  cases h
  exact ⟨rfl, rfl, .array .int, by decide +kernel, fun x => ⟨rfl, rfl⟩⟩
theorem fn_X8_34 (i : Nat → Int32) (p : Nat → Option Nat) : 34 < (qflds 8 i p).length := by show 34 < 35; decide
set_option maxRecDepth 20000 in
theorem fl_X3_11 : qFL RX3 11 3 0 := ⟨RX3, TX3, 1, tyX3, rfl, by decide, (wW_at 108 (by rfl) (by rfl)), in_X3, tyX3_ok, nmX3⟩
set_option maxRecDepth 20000 in
theorem fl_X2_41 : qFL RX2 41 2 0 := ⟨RX2, TX2, 9, tyX2, rfl, by decide, (wW_at 126 (by rfl) (by rfl)), in_X2, tyX2_ok, nmX2⟩
set_option maxRecDepth 20000 in
theorem fl_X4_67 : qFL RX4 67 2 0 := ⟨RX2, TX2, 9, tyX2, rfl, by decide, (wW_at 127 (by rfl) (by rfl)), in_X2, tyX2_ok, nmX2⟩
set_option maxRecDepth 20000 in
theorem fl_X2_11 : qFL RX2 11 2 1 := ⟨RX2, TX2, 9, tyX2, rfl, by decide, (wW_at 128 (by rfl) (by rfl)), in_X2, tyX2_ok, nmX2⟩
set_option maxRecDepth 20000 in
theorem fl_X4_70 : qFL RX4 70 2 1 := ⟨RX2, TX2, 9, tyX2, rfl, by decide, (wW_at 129 (by rfl) (by rfl)), in_X2, tyX2_ok, nmX2⟩
set_option maxRecDepth 20000 in
theorem fl_X2_62 : qFL RX2 62 2 2 := ⟨RX2, TX2, 9, tyX2, rfl, by decide, (wW_at 130 (by rfl) (by rfl)), in_X2, tyX2_ok, nmX2⟩
set_option maxRecDepth 20000 in
theorem fl_X2_48 : qFL RX2 48 2 3 := ⟨RX2, TX2, 9, tyX2, rfl, by decide, (wW_at 131 (by rfl) (by rfl)), in_X2, tyX2_ok, nmX2⟩
set_option maxRecDepth 20000 in
theorem fl_X2_85 : qFL RX2 85 2 4 := ⟨RX2, TX2, 9, tyX2, rfl, by decide, (wW_at 132 (by rfl) (by rfl)), in_X2, tyX2_ok, nmX2⟩
set_option maxRecDepth 20000 in
theorem fl_X2_15 : qFL RX2 15 2 5 := ⟨RX2, TX2, 9, tyX2, rfl, by decide, (wW_at 133 (by rfl) (by rfl)), in_X2, tyX2_ok, nmX2⟩
set_option maxRecDepth 20000 in
theorem fl_X2_18 : qFL RX2 18 2 6 := ⟨RX2, TX2, 9, tyX2, rfl, by decide, (wW_at 134 (by rfl) (by rfl)), in_X2, tyX2_ok, nmX2⟩
set_option maxRecDepth 20000 in
theorem fl_X2_21 : qFL RX2 21 2 7 := ⟨RX2, TX2, 9, tyX2, rfl, by decide, (wW_at 135 (by rfl) (by rfl)), in_X2, tyX2_ok, nmX2⟩
set_option maxRecDepth 20000 in
theorem fl_X2_24 : qFL RX2 24 2 8 := ⟨RX2, TX2, 9, tyX2, rfl, by decide, (wW_at 136 (by rfl) (by rfl)), in_X2, tyX2_ok, nmX2⟩
set_option maxRecDepth 20000 in
theorem fl_X0_9 : qFL RX0 9 0 0 := ⟨RX0, TX0, 6, tyX0, rfl, by decide, (wW_at 162 (by rfl) (by rfl)), in_X0, tyX0_ok, nmX0⟩
set_option maxRecDepth 20000 in
theorem fl_X4_73 : qFL RX4 73 0 0 := ⟨RX0, TX0, 6, tyX0, rfl, by decide, (wW_at 163 (by rfl) (by rfl)), in_X0, tyX0_ok, nmX0⟩
set_option maxRecDepth 20000 in
theorem fl_X0_39 : qFL RX0 39 0 1 := ⟨RX0, TX0, 6, tyX0, rfl, by decide, (wW_at 164 (by rfl) (by rfl)), in_X0, tyX0_ok, nmX0⟩
set_option maxRecDepth 20000 in
theorem fl_X4_92 : qFL RX4 92 0 1 := ⟨RX0, TX0, 6, tyX0, rfl, by decide, (wW_at 165 (by rfl) (by rfl)), in_X0, tyX0_ok, nmX0⟩
set_option maxRecDepth 20000 in
theorem fl_X0_25 : qFL RX0 25 0 2 := ⟨RX0, TX0, 6, tyX0, rfl, by decide, (wW_at 166 (by rfl) (by rfl)), in_X0, tyX0_ok, nmX0⟩
set_option maxRecDepth 20000 in
theorem fl_X4_95 : qFL RX4 95 0 2 := ⟨RX0, TX0, 6, tyX0, rfl, by decide, (wW_at 167 (by rfl) (by rfl)), in_X0, tyX0_ok, nmX0⟩
set_option maxRecDepth 20000 in
theorem fl_X0_21 : qFL RX0 21 0 3 := ⟨RX0, TX0, 6, tyX0, rfl, by decide, (wW_at 168 (by rfl) (by rfl)), in_X0, tyX0_ok, nmX0⟩
set_option maxRecDepth 20000 in
theorem fl_X0_15 : qFL RX0 15 0 4 := ⟨RX0, TX0, 6, tyX0, rfl, by decide, (wW_at 169 (by rfl) (by rfl)), in_X0, tyX0_ok, nmX0⟩
set_option maxRecDepth 20000 in
theorem fl_X0_18 : qFL RX0 18 0 5 := ⟨RX0, TX0, 6, tyX0, rfl, by decide, (wW_at 170 (by rfl) (by rfl)), in_X0, tyX0_ok, nmX0⟩
set_option maxRecDepth 20000 in
theorem fl_X1_18 : qFL RX1 18 1 0 := ⟨RX1, TX1, 3, tyX1, rfl, by decide, (wW_at 190 (by rfl) (by rfl)), in_X1, tyX1_ok, nmX1⟩
set_option maxRecDepth 20000 in
theorem fl_X4_102 : qFL RX4 102 1 0 := ⟨RX1, TX1, 3, tyX1, rfl, by decide, (wW_at 191 (by rfl) (by rfl)), in_X1, tyX1_ok, nmX1⟩
set_option maxRecDepth 20000 in
theorem fl_X1_9 : qFL RX1 9 1 1 := ⟨RX1, TX1, 3, tyX1, rfl, by decide, (wW_at 192 (by rfl) (by rfl)), in_X1, tyX1_ok, nmX1⟩
set_option maxRecDepth 20000 in
theorem fl_X4_105 : qFL RX4 105 1 1 := ⟨RX1, TX1, 3, tyX1, rfl, by decide, (wW_at 193 (by rfl) (by rfl)), in_X1, tyX1_ok, nmX1⟩
set_option maxRecDepth 20000 in
theorem fl_X1_15 : qFL RX1 15 1 2 := ⟨RX1, TX1, 3, tyX1, rfl, by decide, (wW_at 194 (by rfl) (by rfl)), in_X1, tyX1_ok, nmX1⟩
set_option maxRecDepth 20000 in
theorem fl_X7_48 : qFL RX7 48 5 0 := ⟨RX5, TX5, 6, tyX5, rfl, by decide, (wW_at 210 (by rfl) (by rfl)), in_X5, tyX5_ok, nmX5⟩
set_option maxRecDepth 20000 in
theorem fl_X5_36 : qFL RX5 36 5 0 := ⟨RX5, TX5, 6, tyX5, rfl, by decide, (wW_at 211 (by rfl) (by rfl)), in_X5, tyX5_ok, nmX5⟩
set_option maxRecDepth 20000 in
theorem fl_X5_30 : qFL RX5 30 5 1 := ⟨RX5, TX5, 6, tyX5, rfl, by decide, (wW_at 212 (by rfl) (by rfl)), in_X5, tyX5_ok, nmX5⟩
set_option maxRecDepth 20000 in
theorem fl_X2_31 : qFL RX2 31 5 1 := ⟨RX5, TX5, 6, tyX5, rfl, by decide, (wW_at 213 (by rfl) (by rfl)), in_X5, tyX5_ok, nmX5⟩
set_option maxRecDepth 20000 in
theorem fl_X7_66 : qFL RX7 66 5 1 := ⟨RX5, TX5, 6, tyX5, rfl, by decide, (wW_at 214 (by rfl) (by rfl)), in_X5, tyX5_ok, nmX5⟩
set_option maxRecDepth 20000 in
theorem fl_X6_111 : qFL RX6 111 5 1 := ⟨RX5, TX5, 6, tyX5, rfl, by decide, (wW_at 215 (by rfl) (by rfl)), in_X5, tyX5_ok, nmX5⟩
set_option maxRecDepth 20000 in
theorem fl_X4_83 : qFL RX4 83 5 1 := ⟨RX5, TX5, 6, tyX5, rfl, by decide, (wW_at 216 (by rfl) (by rfl)), in_X5, tyX5_ok, nmX5⟩
set_option maxRecDepth 20000 in
theorem fl_X5_9 : qFL RX5 9 5 2 := ⟨RX5, TX5, 6, tyX5, rfl, by decide, (wW_at 217 (by rfl) (by rfl)), in_X5, tyX5_ok, nmX5⟩
set_option maxRecDepth 20000 in
theorem fl_X2_77 : qFL RX2 77 5 2 := ⟨RX5, TX5, 6, tyX5, rfl, by decide, (wW_at 218 (by rfl) (by rfl)), in_X5, tyX5_ok, nmX5⟩
set_option maxRecDepth 20000 in
theorem fl_X6_88 : qFL RX6 88 5 2 := ⟨RX5, TX5, 6, tyX5, rfl, by decide, (wW_at 219 (by rfl) (by rfl)), in_X5, tyX5_ok, nmX5⟩
set_option maxRecDepth 20000 in
theorem fl_X4_112 : qFL RX4 112 5 2 := ⟨RX5, TX5, 6, tyX5, rfl, by decide, (wW_at 220 (by rfl) (by rfl)), in_X5, tyX5_ok, nmX5⟩
set_option maxRecDepth 20000 in
theorem fl_X5_15 : qFL RX5 15 5 3 := ⟨RX5, TX5, 6, tyX5, rfl, by decide, (wW_at 221 (by rfl) (by rfl)), in_X5, tyX5_ok, nmX5⟩
set_option maxRecDepth 20000 in
theorem fl_X6_94 : qFL RX6 94 5 3 := ⟨RX5, TX5, 6, tyX5, rfl, by decide, (wW_at 222 (by rfl) (by rfl)), in_X5, tyX5_ok, nmX5⟩
set_option maxRecDepth 20000 in
theorem fl_X4_86 : qFL RX4 86 5 3 := ⟨RX5, TX5, 6, tyX5, rfl, by decide, (wW_at 223 (by rfl) (by rfl)), in_X5, tyX5_ok, nmX5⟩
set_option maxRecDepth 20000 in
theorem fl_X5_18 : qFL RX5 18 5 4 := ⟨RX5, TX5, 6, tyX5, rfl, by decide, (wW_at 224 (by rfl) (by rfl)), in_X5, tyX5_ok, nmX5⟩
set_option maxRecDepth 20000 in
theorem fl_X6_91 : qFL RX6 91 5 4 := ⟨RX5, TX5, 6, tyX5, rfl, by decide, (wW_at 225 (by rfl) (by rfl)), in_X5, tyX5_ok, nmX5⟩
set_option maxRecDepth 20000 in
theorem fl_X4_89 : qFL RX4 89 5 4 := ⟨RX5, TX5, 6, tyX5, rfl, by decide, (wW_at 226 (by rfl) (by rfl)), in_X5, tyX5_ok, nmX5⟩
set_option maxRecDepth 20000 in
theorem fl_X5_21 : qFL RX5 21 5 5 := ⟨RX5, TX5, 6, tyX5, rfl, by decide, (wW_at 227 (by rfl) (by rfl)), in_X5, tyX5_ok, nmX5⟩
set_option maxRecDepth 20000 in
theorem fl_X6_124 : qFL RX6 124 5 5 := ⟨RX5, TX5, 6, tyX5, rfl, by decide, (wW_at 228 (by rfl) (by rfl)), in_X5, tyX5_ok, nmX5⟩
set_option maxRecDepth 20000 in
theorem fl_X4_11 : qFL RX4 11 4 0 := ⟨RX4, TX4, 7, tyX4, rfl, by decide, (wW_at 242 (by rfl) (by rfl)), in_X4, tyX4_ok, nmX4⟩
set_option maxRecDepth 20000 in
theorem fl_X4_17 : qFL RX4 17 4 1 := ⟨RX4, TX4, 7, tyX4, rfl, by decide, (wW_at 243 (by rfl) (by rfl)), in_X4, tyX4_ok, nmX4⟩
set_option maxRecDepth 20000 in
theorem fl_X4_21 : qFL RX4 21 4 2 := ⟨RX4, TX4, 7, tyX4, rfl, by decide, (wW_at 244 (by rfl) (by rfl)), in_X4, tyX4_ok, nmX4⟩
set_option maxRecDepth 20000 in
theorem fl_X4_27 : qFL RX4 27 4 3 := ⟨RX4, TX4, 7, tyX4, rfl, by decide, (wW_at 245 (by rfl) (by rfl)), in_X4, tyX4_ok, nmX4⟩
set_option maxRecDepth 20000 in
theorem fl_X4_34 : qFL RX4 34 4 4 := ⟨RX4, TX4, 7, tyX4, rfl, by decide, (wW_at 246 (by rfl) (by rfl)), in_X4, tyX4_ok, nmX4⟩
set_option maxRecDepth 20000 in
theorem fl_X4_41 : qFL RX4 41 4 5 := ⟨RX4, TX4, 7, tyX4, rfl, by decide, (wW_at 247 (by rfl) (by rfl)), in_X4, tyX4_ok, nmX4⟩
set_option maxRecDepth 20000 in
theorem fl_X4_50 : qFL RX4 50 4 6 := ⟨RX4, TX4, 7, tyX4, rfl, by decide, (wW_at 248 (by rfl) (by rfl)), in_X4, tyX4_ok, nmX4⟩
set_option maxRecDepth 20000 in
theorem fl_X6_11 : qFL RX6 11 6 0 := ⟨RX6, TX6, 16, tyX6, rfl, by decide, (wW_at 271 (by rfl) (by rfl)), in_X6, tyX6_ok, nmX6⟩
set_option maxRecDepth 20000 in
theorem fl_X6_42 : qFL RX6 42 6 1 := ⟨RX6, TX6, 16, tyX6, rfl, by decide, (wW_at 272 (by rfl) (by rfl)), in_X6, tyX6_ok, nmX6⟩
set_option maxRecDepth 20000 in
theorem fl_X6_46 : qFL RX6 46 6 2 := ⟨RX6, TX6, 16, tyX6, rfl, by decide, (wW_at 273 (by rfl) (by rfl)), in_X6, tyX6_ok, nmX6⟩
set_option maxRecDepth 20000 in
theorem fl_X6_49 : qFL RX6 49 6 3 := ⟨RX6, TX6, 16, tyX6, rfl, by decide, (wW_at 274 (by rfl) (by rfl)), in_X6, tyX6_ok, nmX6⟩
set_option maxRecDepth 20000 in
theorem fl_X6_17 : qFL RX6 17 6 4 := ⟨RX6, TX6, 16, tyX6, rfl, by decide, (wW_at 275 (by rfl) (by rfl)), in_X6, tyX6_ok, nmX6⟩
set_option maxRecDepth 20000 in
theorem fl_X6_21 : qFL RX6 21 6 5 := ⟨RX6, TX6, 16, tyX6, rfl, by decide, (wW_at 276 (by rfl) (by rfl)), in_X6, tyX6_ok, nmX6⟩
set_option maxRecDepth 20000 in
theorem fl_X6_56 : qFL RX6 56 6 6 := ⟨RX6, TX6, 16, tyX6, rfl, by decide, (wW_at 277 (by rfl) (by rfl)), in_X6, tyX6_ok, nmX6⟩
set_option maxRecDepth 20000 in
theorem fl_X6_71 : qFL RX6 71 6 7 := ⟨RX6, TX6, 16, tyX6, rfl, by decide, (wW_at 278 (by rfl) (by rfl)), in_X6, tyX6_ok, nmX6⟩
set_option maxRecDepth 20000 in
theorem fl_X6_24 : qFL RX6 24 6 8 := ⟨RX6, TX6, 16, tyX6, rfl, by decide, (wW_at 279 (by rfl) (by rfl)), in_X6, tyX6_ok, nmX6⟩
set_option maxRecDepth 20000 in
theorem fl_X6_27 : qFL RX6 27 6 9 := ⟨RX6, TX6, 16, tyX6, rfl, by decide, (wW_at 280 (by rfl) (by rfl)), in_X6, tyX6_ok, nmX6⟩
set_option maxRecDepth 20000 in
theorem fl_X6_30 : qFL RX6 30 6 10 := ⟨RX6, TX6, 16, tyX6, rfl, by decide, (wW_at 281 (by rfl) (by rfl)), in_X6, tyX6_ok, nmX6⟩
set_option maxRecDepth 20000 in
theorem fl_X6_33 : qFL RX6 33 6 11 := ⟨RX6, TX6, 16, tyX6, rfl, by decide, (wW_at 282 (by rfl) (by rfl)), in_X6, tyX6_ok, nmX6⟩
set_option maxRecDepth 20000 in
theorem fl_X6_36 : qFL RX6 36 6 12 := ⟨RX6, TX6, 16, tyX6, rfl, by decide, (wW_at 283 (by rfl) (by rfl)), in_X6, tyX6_ok, nmX6⟩
set_option maxRecDepth 20000 in
theorem fl_X6_85 : qFL RX6 85 6 13 := ⟨RX6, TX6, 16, tyX6, rfl, by decide, (wW_at 284 (by rfl) (by rfl)), in_X6, tyX6_ok, nmX6⟩
set_option maxRecDepth 20000 in
theorem fl_X6_39 : qFL RX6 39 6 14 := ⟨RX6, TX6, 16, tyX6, rfl, by decide, (wW_at 285 (by rfl) (by rfl)), in_X6, tyX6_ok, nmX6⟩
set_option maxRecDepth 20000 in
theorem fl_X6_82 : qFL RX6 82 6 15 := ⟨RX6, TX6, 16, tyX6, rfl, by decide, (wW_at 286 (by rfl) (by rfl)), in_X6, tyX6_ok, nmX6⟩
set_option maxRecDepth 20000 in
theorem fl_X7_11 : qFL RX7 11 7 0 := ⟨RX7, TX7, 6, tyX7, rfl, by decide, (wW_at 321 (by rfl) (by rfl)), in_X7, tyX7_ok, nmX7⟩
set_option maxRecDepth 20000 in
theorem fl_X7_18 : qFL RX7 18 7 1 := ⟨RX7, TX7, 6, tyX7, rfl, by decide, (wW_at 322 (by rfl) (by rfl)), in_X7, tyX7_ok, nmX7⟩
set_option maxRecDepth 20000 in
theorem fl_X7_25 : qFL RX7 25 7 2 := ⟨RX7, TX7, 6, tyX7, rfl, by decide, (wW_at 323 (by rfl) (by rfl)), in_X7, tyX7_ok, nmX7⟩
set_option maxRecDepth 20000 in
theorem fl_X7_32 : qFL RX7 32 7 3 := ⟨RX7, TX7, 6, tyX7, rfl, by decide, (wW_at 324 (by rfl) (by rfl)), in_X7, tyX7_ok, nmX7⟩
set_option maxRecDepth 20000 in
theorem fl_X7_45 : qFL RX7 45 7 4 := ⟨RX7, TX7, 6, tyX7, rfl, by decide, (wW_at 325 (by rfl) (by rfl)), in_X7, tyX7_ok, nmX7⟩
set_option maxRecDepth 20000 in
theorem fl_X7_36 : qFL RX7 36 7 5 := ⟨RX7, TX7, 6, tyX7, rfl, by decide, (wW_at 326 (by rfl) (by rfl)), in_X7, tyX7_ok, nmX7⟩
set_option maxRecDepth 20000 in
theorem fl_X8_94 : qFL RX8 94 8 0 := ⟨RX8, TX8, 35, tyX8, rfl, by decide, (wW_at 780 (by rfl) (by rfl)), in_X8, tyX8_ok, nmX8⟩
set_option maxRecDepth 20000 in
theorem fl_X8_97 : qFL RX8 97 8 1 := ⟨RX8, TX8, 35, tyX8, rfl, by decide, (wW_at 781 (by rfl) (by rfl)), in_X8, tyX8_ok, nmX8⟩
set_option maxRecDepth 20000 in
theorem fl_X8_7 : qFL RX8 7 8 2 := ⟨RX8, TX8, 35, tyX8, rfl, by decide, (wW_at 782 (by rfl) (by rfl)), in_X8, tyX8_ok, nmX8⟩
set_option maxRecDepth 20000 in
theorem fl_X8_13 : qFL RX8 13 8 3 := ⟨RX8, TX8, 35, tyX8, rfl, by decide, (wW_at 783 (by rfl) (by rfl)), in_X8, tyX8_ok, nmX8⟩
set_option maxRecDepth 20000 in
theorem fl_X8_17 : qFL RX8 17 8 4 := ⟨RX8, TX8, 35, tyX8, rfl, by decide, (wW_at 784 (by rfl) (by rfl)), in_X8, tyX8_ok, nmX8⟩
set_option maxRecDepth 20000 in
theorem fl_X8_20 : qFL RX8 20 8 5 := ⟨RX8, TX8, 35, tyX8, rfl, by decide, (wW_at 785 (by rfl) (by rfl)), in_X8, tyX8_ok, nmX8⟩
set_option maxRecDepth 20000 in
theorem fl_X8_23 : qFL RX8 23 8 6 := ⟨RX8, TX8, 35, tyX8, rfl, by decide, (wW_at 786 (by rfl) (by rfl)), in_X8, tyX8_ok, nmX8⟩
set_option maxRecDepth 20000 in
theorem fl_X8_26 : qFL RX8 26 8 7 := ⟨RX8, TX8, 35, tyX8, rfl, by decide, (wW_at 787 (by rfl) (by rfl)), in_X8, tyX8_ok, nmX8⟩
set_option maxRecDepth 20000 in
theorem fl_X8_29 : qFL RX8 29 8 8 := ⟨RX8, TX8, 35, tyX8, rfl, by decide, (wW_at 788 (by rfl) (by rfl)), in_X8, tyX8_ok, nmX8⟩
set_option maxRecDepth 20000 in
theorem fl_X8_117 : qFL RX8 117 8 9 := ⟨RX8, TX8, 35, tyX8, rfl, by decide, (wW_at 789 (by rfl) (by rfl)), in_X8, tyX8_ok, nmX8⟩
set_option maxRecDepth 20000 in
theorem fl_X8_120 : qFL RX8 120 8 10 := ⟨RX8, TX8, 35, tyX8, rfl, by decide, (wW_at 790 (by rfl) (by rfl)), in_X8, tyX8_ok, nmX8⟩
set_option maxRecDepth 20000 in
theorem fl_X8_32 : qFL RX8 32 8 11 := ⟨RX8, TX8, 35, tyX8, rfl, by decide, (wW_at 791 (by rfl) (by rfl)), in_X8, tyX8_ok, nmX8⟩
set_option maxRecDepth 20000 in
theorem fl_X8_35 : qFL RX8 35 8 12 := ⟨RX8, TX8, 35, tyX8, rfl, by decide, (wW_at 792 (by rfl) (by rfl)), in_X8, tyX8_ok, nmX8⟩
set_option maxRecDepth 20000 in
theorem fl_X8_38 : qFL RX8 38 8 13 := ⟨RX8, TX8, 35, tyX8, rfl, by decide, (wW_at 793 (by rfl) (by rfl)), in_X8, tyX8_ok, nmX8⟩
set_option maxRecDepth 20000 in
theorem fl_X8_41 : qFL RX8 41 8 14 := ⟨RX8, TX8, 35, tyX8, rfl, by decide, (wW_at 794 (by rfl) (by rfl)), in_X8, tyX8_ok, nmX8⟩
set_option maxRecDepth 20000 in
theorem fl_X8_44 : qFL RX8 44 8 15 := ⟨RX8, TX8, 35, tyX8, rfl, by decide, (wW_at 795 (by rfl) (by rfl)), in_X8, tyX8_ok, nmX8⟩
set_option maxRecDepth 20000 in
theorem fl_X8_47 : qFL RX8 47 8 16 := ⟨RX8, TX8, 35, tyX8, rfl, by decide, (wW_at 796 (by rfl) (by rfl)), in_X8, tyX8_ok, nmX8⟩
set_option maxRecDepth 20000 in
theorem fl_X8_50 : qFL RX8 50 8 17 := ⟨RX8, TX8, 35, tyX8, rfl, by decide, (wW_at 797 (by rfl) (by rfl)), in_X8, tyX8_ok, nmX8⟩
set_option maxRecDepth 20000 in
theorem fl_X8_53 : qFL RX8 53 8 18 := ⟨RX8, TX8, 35, tyX8, rfl, by decide, (wW_at 798 (by rfl) (by rfl)), in_X8, tyX8_ok, nmX8⟩
set_option maxRecDepth 20000 in
theorem fl_X8_56 : qFL RX8 56 8 19 := ⟨RX8, TX8, 35, tyX8, rfl, by decide, (wW_at 799 (by rfl) (by rfl)), in_X8, tyX8_ok, nmX8⟩
set_option maxRecDepth 20000 in
theorem fl_X8_155 : qFL RX8 155 8 20 := ⟨RX8, TX8, 35, tyX8, rfl, by decide, (wW_at 800 (by rfl) (by rfl)), in_X8, tyX8_ok, nmX8⟩
set_option maxRecDepth 20000 in
theorem fl_X8_60 : qFL RX8 60 8 21 := ⟨RX8, TX8, 35, tyX8, rfl, by decide, (wW_at 801 (by rfl) (by rfl)), in_X8, tyX8_ok, nmX8⟩
set_option maxRecDepth 20000 in
theorem fl_X8_63 : qFL RX8 63 8 22 := ⟨RX8, TX8, 35, tyX8, rfl, by decide, (wW_at 802 (by rfl) (by rfl)), in_X8, tyX8_ok, nmX8⟩
set_option maxRecDepth 20000 in
theorem fl_X8_66 : qFL RX8 66 8 23 := ⟨RX8, TX8, 35, tyX8, rfl, by decide, (wW_at 803 (by rfl) (by rfl)), in_X8, tyX8_ok, nmX8⟩
set_option maxRecDepth 20000 in
theorem fl_X8_70 : qFL RX8 70 8 24 := ⟨RX8, TX8, 35, tyX8, rfl, by decide, (wW_at 804 (by rfl) (by rfl)), in_X8, tyX8_ok, nmX8⟩
set_option maxRecDepth 20000 in
theorem fl_X8_211 : qFL RX8 211 8 25 := ⟨RX8, TX8, 35, tyX8, rfl, by decide, (wW_at 805 (by rfl) (by rfl)), in_X8, tyX8_ok, nmX8⟩
set_option maxRecDepth 20000 in
theorem fl_X8_189 : qFL RX8 189 8 26 := ⟨RX8, TX8, 35, tyX8, rfl, by decide, (wW_at 806 (by rfl) (by rfl)), in_X8, tyX8_ok, nmX8⟩
set_option maxRecDepth 20000 in
theorem fl_X8_73 : qFL RX8 73 8 27 := ⟨RX8, TX8, 35, tyX8, rfl, by decide, (wW_at 807 (by rfl) (by rfl)), in_X8, tyX8_ok, nmX8⟩
set_option maxRecDepth 20000 in
theorem fl_X8_76 : qFL RX8 76 8 28 := ⟨RX8, TX8, 35, tyX8, rfl, by decide, (wW_at 808 (by rfl) (by rfl)), in_X8, tyX8_ok, nmX8⟩
set_option maxRecDepth 20000 in
theorem fl_X8_79 : qFL RX8 79 8 29 := ⟨RX8, TX8, 35, tyX8, rfl, by decide, (wW_at 809 (by rfl) (by rfl)), in_X8, tyX8_ok, nmX8⟩
set_option maxRecDepth 20000 in
theorem fl_X8_82 : qFL RX8 82 8 30 := ⟨RX8, TX8, 35, tyX8, rfl, by decide, (wW_at 810 (by rfl) (by rfl)), in_X8, tyX8_ok, nmX8⟩
set_option maxRecDepth 20000 in
theorem fl_X8_85 : qFL RX8 85 8 31 := ⟨RX8, TX8, 35, tyX8, rfl, by decide, (wW_at 811 (by rfl) (by rfl)), in_X8, tyX8_ok, nmX8⟩
set_option maxRecDepth 20000 in
theorem fl_X8_88 : qFL RX8 88 8 32 := ⟨RX8, TX8, 35, tyX8, rfl, by decide, (wW_at 812 (by rfl) (by rfl)), in_X8, tyX8_ok, nmX8⟩
set_option maxRecDepth 20000 in
theorem fl_X8_228 : qFL RX8 228 8 33 := ⟨RX8, TX8, 35, tyX8, rfl, by decide, (wW_at 813 (by rfl) (by rfl)), in_X8, tyX8_ok, nmX8⟩
set_option maxRecDepth 20000 in
theorem fl_X8_91 : qFL RX8 91 8 34 := ⟨RX8, TX8, 35, tyX8, rfl, by decide, (wW_at 814 (by rfl) (by rfl)), in_X8, tyX8_ok, nmX8⟩
/-! calls -/
set_option maxRecDepth 20000 in
theorem cl_L_9 : qCI RL 9 0 mX7_init := ⟨(wW_at 96 (by rfl) (by rfl)), (wW_at 79 (by rfl) (by rfl)), (wW_at 94 (by rfl) (by rfl)), (wW_at 95 (by rfl) (by rfl)), rfl, ⟨by decide, by decide, by decide +kernel⟩, rfl⟩
set_option maxRecDepth 20000 in
theorem cl_X7_3 : Cond.methodLink RX7 3 objectInit ∈ wW := (wW_at 97 (by rfl) (by rfl))
set_option maxRecDepth 20000 in
theorem cl_X7_17 : qCIN RX7 17 0 "TrainBook" mX3_init := ⟨(wW_at 106 (by rfl) (by rfl)), (wW_at 80 (by rfl) (by rfl)), List.mem_filter.mpr ⟨List.mem_of_getElem? (i := 104) (by rfl), by rfl⟩, (wW_at 105 (by rfl) (by rfl)), rfl, ⟨by decide, by decide, by decide +kernel⟩, rfl⟩
set_option maxRecDepth 20000 in
theorem cl_X3_3 : Cond.methodLink RX3 3 objectInit ∈ wW := (wW_at 107 (by rfl) (by rfl))
set_option maxRecDepth 20000 in
theorem cl_X7_24 : qCI RX7 24 0 mX4_init := ⟨(wW_at 117 (by rfl) (by rfl)), (wW_at 81 (by rfl) (by rfl)), (wW_at 115 (by rfl) (by rfl)), (wW_at 116 (by rfl) (by rfl)), rfl, ⟨by decide, by decide, by decide +kernel⟩, rfl⟩
set_option maxRecDepth 20000 in
theorem cl_X4_3 : Cond.methodLink RX4 3 objectInit ∈ wW := (wW_at 118 (by rfl) (by rfl))
set_option maxRecDepth 20000 in
theorem cl_X4_26 : qCIN RX4 26 0 "TrainBook" mX2_init := ⟨(wW_at 124 (by rfl) (by rfl)), (wW_at 82 (by rfl) (by rfl)), List.mem_filter.mpr ⟨List.mem_of_getElem? (i := 122) (by rfl), by rfl⟩, (wW_at 123 (by rfl) (by rfl)), rfl, ⟨by decide, by decide, by decide +kernel⟩, rfl⟩
set_option maxRecDepth 20000 in
theorem cl_X2_5 : Cond.methodLink RX2 5 objectInit ∈ wW := (wW_at 125 (by rfl) (by rfl))
set_option maxRecDepth 20000 in
theorem cl_X4_33 : qCIN RX4 33 0 "TrainBook" mX0_init := ⟨(wW_at 160 (by rfl) (by rfl)), (wW_at 83 (by rfl) (by rfl)), List.mem_filter.mpr ⟨List.mem_of_getElem? (i := 158) (by rfl), by rfl⟩, (wW_at 159 (by rfl) (by rfl)), rfl, ⟨by decide, by decide, by decide +kernel⟩, rfl⟩
set_option maxRecDepth 20000 in
theorem cl_X0_3 : Cond.methodLink RX0 3 objectInit ∈ wW := (wW_at 161 (by rfl) (by rfl))
set_option maxRecDepth 20000 in
theorem cl_X4_40 : qCIN RX4 40 0 "TrainBook" mX1_init := ⟨(wW_at 188 (by rfl) (by rfl)), (wW_at 84 (by rfl) (by rfl)), List.mem_filter.mpr ⟨List.mem_of_getElem? (i := 186) (by rfl), by rfl⟩, (wW_at 187 (by rfl) (by rfl)), rfl, ⟨by decide, by decide, by decide +kernel⟩, rfl⟩
set_option maxRecDepth 20000 in
theorem cl_X1_3 : Cond.methodLink RX1 3 objectInit ∈ wW := (wW_at 189 (by rfl) (by rfl))
set_option maxRecDepth 20000 in
theorem cl_X4_45 : qCI RX4 45 0 mX5_init := ⟨(wW_at 205 (by rfl) (by rfl)), (wW_at 85 (by rfl) (by rfl)), (wW_at 203 (by rfl) (by rfl)), (wW_at 204 (by rfl) (by rfl)), rfl, ⟨by decide, by decide, by decide +kernel⟩, rfl⟩
set_option maxRecDepth 20000 in
theorem cl_X5_3 : Cond.methodLink RX5 3 objectInit ∈ wW := (wW_at 206 (by rfl) (by rfl))
set_option maxRecDepth 20000 in
theorem cl_X5_24 : qCS RX5 24 2 mJ7_fill_53178 := ⟨(wW_at 209 (by rfl) (by rfl)), (wW_at 86 (by rfl) (by rfl)), (wW_at 207 (by rfl) (by rfl)), (wW_at 208 (by rfl) (by rfl)), ⟨by decide, by decide, by decide +kernel⟩⟩
set_option maxRecDepth 20000 in
theorem cl_X7_31 : qCIN RX7 31 0 "TrainBook" mX6_init := ⟨(wW_at 268 (by rfl) (by rfl)), (wW_at 87 (by rfl) (by rfl)), List.mem_filter.mpr ⟨List.mem_of_getElem? (i := 266) (by rfl), by rfl⟩, (wW_at 267 (by rfl) (by rfl)), rfl, ⟨by decide, by decide, by decide +kernel⟩, rfl⟩
set_option maxRecDepth 20000 in
theorem cl_X6_3 : Cond.methodLink RX6 3 objectInit ∈ wW := (wW_at 269 (by rfl) (by rfl))
set_option maxRecDepth 20000 in
theorem cl_X7_40 : qCI RX7 40 0 mX5_init := ⟨(wW_at 205 (by rfl) (by rfl)), (wW_at 85 (by rfl) (by rfl)), (wW_at 320 (by rfl) (by rfl)), (wW_at 204 (by rfl) (by rfl)), rfl, ⟨by decide, by decide, by decide +kernel⟩, rfl⟩
set_option maxRecDepth 20000 in
theorem cl_L_13 : qCV RL 13 1 7 mX7_train := ⟨(wW_at 343 (by rfl) (by rfl)), (wW_at 79 (by rfl) (by rfl)), (wW_at 340 (by rfl) (by rfl)), (wW_at 341 (by rfl) (by rfl)), (wW_at 342 (by rfl) (by rfl)), ⟨by decide, by decide, by decide +kernel⟩, by decide, TX7, 6, rfl⟩
set_option maxRecDepth 20000 in
theorem cl_X7_41 : qCS RX7 41 1 mX7_areDays := ⟨(wW_at 346 (by rfl) (by rfl)), (wW_at 79 (by rfl) (by rfl)), (wW_at 344 (by rfl) (by rfl)), (wW_at 345 (by rfl) (by rfl)), ⟨by decide, by decide, by decide +kernel⟩⟩
set_option maxRecDepth 20000 in
theorem cl_L_18 : qCV RL 18 4 7 mX7_stop := ⟨(wW_at 350 (by rfl) (by rfl)), (wW_at 79 (by rfl) (by rfl)), (wW_at 347 (by rfl) (by rfl)), (wW_at 348 (by rfl) (by rfl)), (wW_at 349 (by rfl) (by rfl)), ⟨by decide, by decide, by decide +kernel⟩, by decide, TX7, 6, rfl⟩
set_option maxRecDepth 20000 in
theorem cl_X7_51 : qCV RX7 51 1 7 mX7_trainOf := ⟨(wW_at 354 (by rfl) (by rfl)), (wW_at 79 (by rfl) (by rfl)), (wW_at 351 (by rfl) (by rfl)), (wW_at 353 (by rfl) (by rfl)), (wW_at 0 (by rfl) (by rfl)), ⟨by decide, by decide, by decide +kernel⟩, by decide, TX7, 6, rfl⟩
set_option maxRecDepth 20000 in
theorem cl_X7_55 : qCS RX7 55 1 mX7_isStation := ⟨(wW_at 357 (by rfl) (by rfl)), (wW_at 79 (by rfl) (by rfl)), (wW_at 355 (by rfl) (by rfl)), (wW_at 356 (by rfl) (by rfl)), ⟨by decide, by decide, by decide +kernel⟩⟩
set_option maxRecDepth 20000 in
theorem cl_X7_58 : qCV RX7 58 3 5 mX5_takes := ⟨(wW_at 361 (by rfl) (by rfl)), (wW_at 85 (by rfl) (by rfl)), (wW_at 358 (by rfl) (by rfl)), (wW_at 359 (by rfl) (by rfl)), (wW_at 360 (by rfl) (by rfl)), ⟨by decide, by decide, by decide +kernel⟩, by decide, TX5, 6, rfl⟩
set_option maxRecDepth 20000 in
theorem cl_X7_62 : qCV RX7 62 3 5 mX5_add := ⟨(wW_at 365 (by rfl) (by rfl)), (wW_at 85 (by rfl) (by rfl)), (wW_at 362 (by rfl) (by rfl)), (wW_at 363 (by rfl) (by rfl)), (wW_at 364 (by rfl) (by rfl)), ⟨by decide, by decide, by decide +kernel⟩, by decide, TX5, 6, rfl⟩
set_option maxRecDepth 20000 in
theorem cl_L_23 : qCV RL 23 2 7 mX7_days := ⟨(wW_at 369 (by rfl) (by rfl)), (wW_at 79 (by rfl) (by rfl)), (wW_at 366 (by rfl) (by rfl)), (wW_at 367 (by rfl) (by rfl)), (wW_at 368 (by rfl) (by rfl)), ⟨by decide, by decide, by decide +kernel⟩, by decide, TX7, 6, rfl⟩
set_option maxRecDepth 20000 in
theorem cl_L_28 : qCV RL 28 1 7 mX7_cut := ⟨(wW_at 373 (by rfl) (by rfl)), (wW_at 79 (by rfl) (by rfl)), (wW_at 370 (by rfl) (by rfl)), (wW_at 371 (by rfl) (by rfl)), (wW_at 372 (by rfl) (by rfl)), ⟨by decide, by decide, by decide +kernel⟩, by decide, TX7, 6, rfl⟩
set_option maxRecDepth 20000 in
theorem cl_X7_69 : qCV RX7 69 0 5 mX5_dropLast := ⟨(wW_at 377 (by rfl) (by rfl)), (wW_at 85 (by rfl) (by rfl)), (wW_at 374 (by rfl) (by rfl)), (wW_at 375 (by rfl) (by rfl)), (wW_at 376 (by rfl) (by rfl)), ⟨by decide, by decide, by decide +kernel⟩, by decide, TX5, 6, rfl⟩
set_option maxRecDepth 20000 in
theorem cl_L_33 : qCV RL 33 2 7 mX7_shift := ⟨(wW_at 381 (by rfl) (by rfl)), (wW_at 79 (by rfl) (by rfl)), (wW_at 378 (by rfl) (by rfl)), (wW_at 379 (by rfl) (by rfl)), (wW_at 380 (by rfl) (by rfl)), ⟨by decide, by decide, by decide +kernel⟩, by decide, TX7, 6, rfl⟩
set_option maxRecDepth 20000 in
theorem cl_X7_72 : qCV RX7 72 1 5 mX5_staysInDay := ⟨(wW_at 385 (by rfl) (by rfl)), (wW_at 85 (by rfl) (by rfl)), (wW_at 382 (by rfl) (by rfl)), (wW_at 383 (by rfl) (by rfl)), (wW_at 384 (by rfl) (by rfl)), ⟨by decide, by decide, by decide +kernel⟩, by decide, TX5, 6, rfl⟩
set_option maxRecDepth 20000 in
theorem cl_X7_75 : qCV RX7 75 1 5 mX5_move := ⟨(wW_at 390 (by rfl) (by rfl)), (wW_at 85 (by rfl) (by rfl)), (wW_at 387 (by rfl) (by rfl)), (wW_at 388 (by rfl) (by rfl)), (wW_at 389 (by rfl) (by rfl)), ⟨by decide, by decide, by decide +kernel⟩, by decide, TX5, 6, rfl⟩
set_option maxRecDepth 20000 in
theorem cl_L_37 : qCV RL 37 2 7 mX7_sign := ⟨(wW_at 394 (by rfl) (by rfl)), (wW_at 79 (by rfl) (by rfl)), (wW_at 391 (by rfl) (by rfl)), (wW_at 392 (by rfl) (by rfl)), (wW_at 393 (by rfl) (by rfl)), ⟨by decide, by decide, by decide +kernel⟩, by decide, TX7, 6, rfl⟩
set_option maxRecDepth 20000 in
theorem cl_X7_79 : qCV RX7 79 2 3 mX3_tell := ⟨(wW_at 398 (by rfl) (by rfl)), (wW_at 80 (by rfl) (by rfl)), (wW_at 395 (by rfl) (by rfl)), (wW_at 396 (by rfl) (by rfl)), (wW_at 397 (by rfl) (by rfl)), ⟨by decide, by decide, by decide +kernel⟩, by decide, TX3, 1, rfl⟩
set_option maxRecDepth 20000 in
theorem cl_L_41 : qCV RL 41 1 7 mX7_change := ⟨(wW_at 402 (by rfl) (by rfl)), (wW_at 79 (by rfl) (by rfl)), (wW_at 399 (by rfl) (by rfl)), (wW_at 400 (by rfl) (by rfl)), (wW_at 401 (by rfl) (by rfl)), ⟨by decide, by decide, by decide +kernel⟩, by decide, TX7, 6, rfl⟩
set_option maxRecDepth 20000 in
theorem cl_L_45 : qCV RL 45 1 7 mX7_about := ⟨(wW_at 406 (by rfl) (by rfl)), (wW_at 79 (by rfl) (by rfl)), (wW_at 403 (by rfl) (by rfl)), (wW_at 404 (by rfl) (by rfl)), (wW_at 405 (by rfl) (by rfl)), ⟨by decide, by decide, by decide +kernel⟩, by decide, TX7, 6, rfl⟩
set_option maxRecDepth 20000 in
theorem cl_X7_83 : qCV RX7 83 1 7 mX7_aboutBook := ⟨(wW_at 410 (by rfl) (by rfl)), (wW_at 79 (by rfl) (by rfl)), (wW_at 407 (by rfl) (by rfl)), (wW_at 409 (by rfl) (by rfl)), (wW_at 1 (by rfl) (by rfl)), ⟨by decide, by decide, by decide +kernel⟩, by decide, TX7, 6, rfl⟩
set_option maxRecDepth 20000 in
theorem cl_X7_105 : qCV RX7 105 0 4 mX4_rowCount := ⟨(wW_at 414 (by rfl) (by rfl)), (wW_at 81 (by rfl) (by rfl)), (wW_at 411 (by rfl) (by rfl)), (wW_at 412 (by rfl) (by rfl)), (wW_at 413 (by rfl) (by rfl)), ⟨by decide, by decide, by decide +kernel⟩, by decide, TX4, 7, rfl⟩
set_option maxRecDepth 20000 in
theorem cl_X7_161 : qCV RX7 161 0 4 mX4_columnCount := ⟨(wW_at 418 (by rfl) (by rfl)), (wW_at 81 (by rfl) (by rfl)), (wW_at 415 (by rfl) (by rfl)), (wW_at 416 (by rfl) (by rfl)), (wW_at 417 (by rfl) (by rfl)), ⟨by decide, by decide, by decide +kernel⟩, by decide, TX4, 7, rfl⟩
set_option maxRecDepth 20000 in
theorem cl_X7_87 : qCV RX7 87 1 5 mX5_read := ⟨(wW_at 422 (by rfl) (by rfl)), (wW_at 85 (by rfl) (by rfl)), (wW_at 419 (by rfl) (by rfl)), (wW_at 420 (by rfl) (by rfl)), (wW_at 421 (by rfl) (by rfl)), ⟨by decide, by decide, by decide +kernel⟩, by decide, TX5, 6, rfl⟩
set_option maxRecDepth 20000 in
theorem cl_L_49 : qCV RL 49 2 7 mX7_signs := ⟨(wW_at 426 (by rfl) (by rfl)), (wW_at 79 (by rfl) (by rfl)), (wW_at 423 (by rfl) (by rfl)), (wW_at 424 (by rfl) (by rfl)), (wW_at 425 (by rfl) (by rfl)), ⟨by decide, by decide, by decide +kernel⟩, by decide, TX7, 6, rfl⟩
set_option maxRecDepth 20000 in
theorem cl_X7_90 : qCV RX7 90 1 3 mX3_fewestFor := ⟨(wW_at 430 (by rfl) (by rfl)), (wW_at 80 (by rfl) (by rfl)), (wW_at 427 (by rfl) (by rfl)), (wW_at 428 (by rfl) (by rfl)), (wW_at 429 (by rfl) (by rfl)), ⟨by decide, by decide, by decide +kernel⟩, by decide, TX3, 1, rfl⟩
set_option maxRecDepth 20000 in
theorem cl_X3_15 : qCV RX3 15 1 3 mX3_unionOf := ⟨(wW_at 434 (by rfl) (by rfl)), (wW_at 80 (by rfl) (by rfl)), (wW_at 431 (by rfl) (by rfl)), (wW_at 433 (by rfl) (by rfl)), (wW_at 2 (by rfl) (by rfl)), ⟨by decide, by decide, by decide +kernel⟩, by decide, TX3, 1, rfl⟩
set_option maxRecDepth 20000 in
theorem cl_X3_19 : qCS RX3 19 2 mX3_lesser := ⟨(wW_at 437 (by rfl) (by rfl)), (wW_at 80 (by rfl) (by rfl)), (wW_at 435 (by rfl) (by rfl)), (wW_at 436 (by rfl) (by rfl)), ⟨by decide, by decide, by decide +kernel⟩⟩
set_option maxRecDepth 20000 in
theorem cl_X3_23 : qCS RX3 23 1 mJ6_bitCount_0f7a4 := ⟨(wW_at 440 (by rfl) (by rfl)), (wW_at 89 (by rfl) (by rfl)), (wW_at 438 (by rfl) (by rfl)), (wW_at 439 (by rfl) (by rfl)), ⟨by decide, by decide, by decide +kernel⟩⟩
set_option maxRecDepth 20000 in
theorem cl_X3_28 : Cond.methodLink RX3 28 Lib.Math.min.name ∈ wW := (wW_at 444 (by rfl) (by rfl))
set_option maxRecDepth 20000 in
theorem cl_X7_93 : qCS RX7 93 1 mJ6_bitCount_0f7a4 := ⟨(wW_at 440 (by rfl) (by rfl)), (wW_at 89 (by rfl) (by rfl)), (wW_at 447 (by rfl) (by rfl)), (wW_at 439 (by rfl) (by rfl)), ⟨by decide, by decide, by decide +kernel⟩⟩
set_option maxRecDepth 20000 in
theorem cl_L_54 : qCV RL 54 1 7 mX7_table := ⟨(wW_at 451 (by rfl) (by rfl)), (wW_at 79 (by rfl) (by rfl)), (wW_at 448 (by rfl) (by rfl)), (wW_at 449 (by rfl) (by rfl)), (wW_at 450 (by rfl) (by rfl)), ⟨by decide, by decide, by decide +kernel⟩, by decide, TX7, 6, rfl⟩
set_option maxRecDepth 20000 in
theorem cl_X7_98 : qCV RX7 98 1 7 mX7_canBeTable := ⟨(wW_at 455 (by rfl) (by rfl)), (wW_at 79 (by rfl) (by rfl)), (wW_at 452 (by rfl) (by rfl)), (wW_at 454 (by rfl) (by rfl)), (wW_at 3 (by rfl) (by rfl)), ⟨by decide, by decide, by decide +kernel⟩, by decide, TX7, 6, rfl⟩
set_option maxRecDepth 20000 in
theorem cl_X7_101 : qCV RX7 101 2 4 mX4_make := ⟨(wW_at 459 (by rfl) (by rfl)), (wW_at 81 (by rfl) (by rfl)), (wW_at 456 (by rfl) (by rfl)), (wW_at 457 (by rfl) (by rfl)), (wW_at 458 (by rfl) (by rfl)), ⟨by decide, by decide, by decide +kernel⟩, by decide, TX4, 7, rfl⟩
set_option maxRecDepth 20000 in
theorem cl_X4_46 : qCV RX4 46 2 4 mX4_takeMembers := ⟨(wW_at 463 (by rfl) (by rfl)), (wW_at 81 (by rfl) (by rfl)), (wW_at 460 (by rfl) (by rfl)), (wW_at 462 (by rfl) (by rfl)), (wW_at 4 (by rfl) (by rfl)), ⟨by decide, by decide, by decide +kernel⟩, by decide, TX4, 7, rfl⟩
set_option maxRecDepth 20000 in
theorem cl_X4_108 : qCV RX4 108 1 5 mX5_copy := ⟨(wW_at 467 (by rfl) (by rfl)), (wW_at 85 (by rfl) (by rfl)), (wW_at 464 (by rfl) (by rfl)), (wW_at 465 (by rfl) (by rfl)), (wW_at 466 (by rfl) (by rfl)), ⟨by decide, by decide, by decide +kernel⟩, by decide, TX5, 6, rfl⟩
set_option maxRecDepth 20000 in
theorem cl_X5_43 : Cond.methodLink RX5 43 arraycopyName ∈ wW := (wW_at 468 (by rfl) (by rfl))
set_option maxRecDepth 20000 in
theorem cl_X4_54 : qCV RX4 54 2 2 mX2_search := ⟨(wW_at 474 (by rfl) (by rfl)), (wW_at 82 (by rfl) (by rfl)), (wW_at 471 (by rfl) (by rfl)), (wW_at 472 (by rfl) (by rfl)), (wW_at 473 (by rfl) (by rfl)), ⟨by decide, by decide, by decide +kernel⟩, by decide, TX2, 9, rfl⟩
set_option maxRecDepth 20000 in
theorem cl_X2_27 : qCV RX2 27 2 2 mX2_prepare := ⟨(wW_at 478 (by rfl) (by rfl)), (wW_at 82 (by rfl) (by rfl)), (wW_at 475 (by rfl) (by rfl)), (wW_at 477 (by rfl) (by rfl)), (wW_at 5 (by rfl) (by rfl)), ⟨by decide, by decide, by decide +kernel⟩, by decide, TX2, 9, rfl⟩
set_option maxRecDepth 20000 in
theorem cl_X2_65 : qCV RX2 65 2 2 mX2_readStops := ⟨(wW_at 482 (by rfl) (by rfl)), (wW_at 82 (by rfl) (by rfl)), (wW_at 479 (by rfl) (by rfl)), (wW_at 481 (by rfl) (by rfl)), (wW_at 6 (by rfl) (by rfl)), ⟨by decide, by decide, by decide +kernel⟩, by decide, TX2, 9, rfl⟩
set_option maxRecDepth 20000 in
theorem cl_X2_69 : qCV RX2 69 3 2 mX2_fillPair := ⟨(wW_at 486 (by rfl) (by rfl)), (wW_at 82 (by rfl) (by rfl)), (wW_at 483 (by rfl) (by rfl)), (wW_at 485 (by rfl) (by rfl)), (wW_at 7 (by rfl) (by rfl)), ⟨by decide, by decide, by decide +kernel⟩, by decide, TX2, 9, rfl⟩
set_option maxRecDepth 20000 in
theorem cl_X2_80 : Cond.methodLink RX2 80 Lib.Math.min.name ∈ wW := (wW_at 487 (by rfl) (by rfl))
set_option maxRecDepth 20000 in
theorem cl_X2_73 : qCV RX2 73 1 2 mX2_openKnown := ⟨(wW_at 491 (by rfl) (by rfl)), (wW_at 82 (by rfl) (by rfl)), (wW_at 488 (by rfl) (by rfl)), (wW_at 490 (by rfl) (by rfl)), (wW_at 8 (by rfl) (by rfl)), ⟨by decide, by decide, by decide +kernel⟩, by decide, TX2, 9, rfl⟩
set_option maxRecDepth 20000 in
theorem cl_X2_89 : qCS RX2 89 2 mJ7_fill_53178 := ⟨(wW_at 209 (by rfl) (by rfl)), (wW_at 86 (by rfl) (by rfl)), (wW_at 493 (by rfl) (by rfl)), (wW_at 208 (by rfl) (by rfl)), ⟨by decide, by decide, by decide +kernel⟩⟩
set_option maxRecDepth 20000 in
theorem cl_X2_37 : qCV RX2 37 1 2 mX2_needOf := ⟨(wW_at 497 (by rfl) (by rfl)), (wW_at 82 (by rfl) (by rfl)), (wW_at 494 (by rfl) (by rfl)), (wW_at 496 (by rfl) (by rfl)), (wW_at 9 (by rfl) (by rfl)), ⟨by decide, by decide, by decide +kernel⟩, by decide, TX2, 9, rfl⟩
set_option maxRecDepth 20000 in
theorem cl_X2_95 : qCV RX2 95 1 2 mX2_leastNeed := ⟨(wW_at 501 (by rfl) (by rfl)), (wW_at 82 (by rfl) (by rfl)), (wW_at 498 (by rfl) (by rfl)), (wW_at 500 (by rfl) (by rfl)), (wW_at 10 (by rfl) (by rfl)), ⟨by decide, by decide, by decide +kernel⟩, by decide, TX2, 9, rfl⟩
set_option maxRecDepth 20000 in
theorem cl_X2_98 : qCV RX2 98 2 2 mX2_placeOf := ⟨(wW_at 505 (by rfl) (by rfl)), (wW_at 82 (by rfl) (by rfl)), (wW_at 502 (by rfl) (by rfl)), (wW_at 504 (by rfl) (by rfl)), (wW_at 11 (by rfl) (by rfl)), ⟨by decide, by decide, by decide +kernel⟩, by decide, TX2, 9, rfl⟩
set_option maxRecDepth 20000 in
theorem cl_X2_101 : qCS RX2 101 1 mJ6_bitCount_0f7a4 := ⟨(wW_at 440 (by rfl) (by rfl)), (wW_at 89 (by rfl) (by rfl)), (wW_at 506 (by rfl) (by rfl)), (wW_at 439 (by rfl) (by rfl)), ⟨by decide, by decide, by decide +kernel⟩⟩
set_option maxRecDepth 20000 in
theorem cl_X2_106 : qCV RX2 106 3 2 mX2_pairNeedAt := ⟨(wW_at 510 (by rfl) (by rfl)), (wW_at 82 (by rfl) (by rfl)), (wW_at 507 (by rfl) (by rfl)), (wW_at 509 (by rfl) (by rfl)), (wW_at 12 (by rfl) (by rfl)), ⟨by decide, by decide, by decide +kernel⟩, by decide, TX2, 9, rfl⟩
set_option maxRecDepth 20000 in
theorem cl_X2_110 : Cond.methodLink RX2 110 Lib.Math.max.name ∈ wW := (wW_at 511 (by rfl) (by rfl))
set_option maxRecDepth 20000 in
theorem cl_X2_58 : qCV RX2 58 2 2 mX2_keep := ⟨(wW_at 517 (by rfl) (by rfl)), (wW_at 82 (by rfl) (by rfl)), (wW_at 514 (by rfl) (by rfl)), (wW_at 516 (by rfl) (by rfl)), (wW_at 13 (by rfl) (by rfl)), ⟨by decide, by decide, by decide +kernel⟩, by decide, TX2, 9, rfl⟩
set_option maxRecDepth 20000 in
theorem cl_X2_44 : qCS RX2 44 3 mX2_reach := ⟨(wW_at 520 (by rfl) (by rfl)), (wW_at 82 (by rfl) (by rfl)), (wW_at 518 (by rfl) (by rfl)), (wW_at 519 (by rfl) (by rfl)), ⟨by decide, by decide, by decide +kernel⟩⟩
set_option maxRecDepth 20000 in
theorem cl_X2_51 : qCV RX2 51 1 2 mX2_nextStations := ⟨(wW_at 524 (by rfl) (by rfl)), (wW_at 82 (by rfl) (by rfl)), (wW_at 521 (by rfl) (by rfl)), (wW_at 523 (by rfl) (by rfl)), (wW_at 14 (by rfl) (by rfl)), ⟨by decide, by decide, by decide +kernel⟩, by decide, TX2, 9, rfl⟩
set_option maxRecDepth 20000 in
theorem cl_X2_54 : qCV RX2 54 2 2 mX2_passed := ⟨(wW_at 528 (by rfl) (by rfl)), (wW_at 82 (by rfl) (by rfl)), (wW_at 525 (by rfl) (by rfl)), (wW_at 527 (by rfl) (by rfl)), (wW_at 15 (by rfl) (by rfl)), ⟨by decide, by decide, by decide +kernel⟩, by decide, TX2, 9, rfl⟩
set_option maxRecDepth 20000 in
theorem cl_X4_57 : qCV RX4 57 1 4 mX4_placeStops := ⟨(wW_at 532 (by rfl) (by rfl)), (wW_at 81 (by rfl) (by rfl)), (wW_at 529 (by rfl) (by rfl)), (wW_at 531 (by rfl) (by rfl)), (wW_at 16 (by rfl) (by rfl)), ⟨by decide, by decide, by decide +kernel⟩, by decide, TX4, 7, rfl⟩
set_option maxRecDepth 20000 in
theorem cl_X4_61 : qCV RX4 61 2 0 mX0_arrange := ⟨(wW_at 536 (by rfl) (by rfl)), (wW_at 83 (by rfl) (by rfl)), (wW_at 533 (by rfl) (by rfl)), (wW_at 534 (by rfl) (by rfl)), (wW_at 535 (by rfl) (by rfl)), ⟨by decide, by decide, by decide +kernel⟩, by decide, TX0, 6, rfl⟩
set_option maxRecDepth 20000 in
theorem cl_X0_28 : qCV RX0 28 2 0 mX0_breachedBy := ⟨(wW_at 540 (by rfl) (by rfl)), (wW_at 83 (by rfl) (by rfl)), (wW_at 537 (by rfl) (by rfl)), (wW_at 539 (by rfl) (by rfl)), (wW_at 17 (by rfl) (by rfl)), ⟨by decide, by decide, by decide +kernel⟩, by decide, TX0, 6, rfl⟩
set_option maxRecDepth 20000 in
theorem cl_X0_45 : qCV RX0 45 1 5 mX5_isAheadSomewhere := ⟨(wW_at 544 (by rfl) (by rfl)), (wW_at 85 (by rfl) (by rfl)), (wW_at 541 (by rfl) (by rfl)), (wW_at 542 (by rfl) (by rfl)), (wW_at 543 (by rfl) (by rfl)), ⟨by decide, by decide, by decide +kernel⟩, by decide, TX5, 6, rfl⟩
set_option maxRecDepth 20000 in
theorem cl_X5_39 : qCV RX5 39 1 5 mX5_leaves := ⟨(wW_at 548 (by rfl) (by rfl)), (wW_at 85 (by rfl) (by rfl)), (wW_at 545 (by rfl) (by rfl)), (wW_at 547 (by rfl) (by rfl)), (wW_at 18 (by rfl) (by rfl)), ⟨by decide, by decide, by decide +kernel⟩, by decide, TX5, 6, rfl⟩
set_option maxRecDepth 20000 in
theorem cl_X0_32 : qCV RX0 32 2 0 mX0_wouldBreach := ⟨(wW_at 552 (by rfl) (by rfl)), (wW_at 83 (by rfl) (by rfl)), (wW_at 549 (by rfl) (by rfl)), (wW_at 550 (by rfl) (by rfl)), (wW_at 551 (by rfl) (by rfl)), ⟨by decide, by decide, by decide +kernel⟩, by decide, TX0, 6, rfl⟩
set_option maxRecDepth 20000 in
theorem cl_X0_36 : qCV RX0 36 0 0 mX0_fillFewest := ⟨(wW_at 556 (by rfl) (by rfl)), (wW_at 83 (by rfl) (by rfl)), (wW_at 553 (by rfl) (by rfl)), (wW_at 555 (by rfl) (by rfl)), (wW_at 19 (by rfl) (by rfl)), ⟨by decide, by decide, by decide +kernel⟩, by decide, TX0, 6, rfl⟩
set_option maxRecDepth 20000 in
theorem cl_X0_51 : qCV RX0 51 2 0 mX0_fewestWith := ⟨(wW_at 560 (by rfl) (by rfl)), (wW_at 83 (by rfl) (by rfl)), (wW_at 557 (by rfl) (by rfl)), (wW_at 559 (by rfl) (by rfl)), (wW_at 20 (by rfl) (by rfl)), ⟨by decide, by decide, by decide +kernel⟩, by decide, TX0, 6, rfl⟩
set_option maxRecDepth 20000 in
theorem cl_X0_60 : qCS RX0 60 1 mJ6_bitCount_0f7a4 := ⟨(wW_at 440 (by rfl) (by rfl)), (wW_at 89 (by rfl) (by rfl)), (wW_at 561 (by rfl) (by rfl)), (wW_at 439 (by rfl) (by rfl)), ⟨by decide, by decide, by decide +kernel⟩⟩
set_option maxRecDepth 20000 in
theorem cl_X0_55 : Cond.methodLink RX0 55 Lib.Math.min.name ∈ wW := (wW_at 562 (by rfl) (by rfl))
set_option maxRecDepth 20000 in
theorem cl_X0_42 : qCV RX0 42 0 0 mX0_setOrder := ⟨(wW_at 566 (by rfl) (by rfl)), (wW_at 83 (by rfl) (by rfl)), (wW_at 563 (by rfl) (by rfl)), (wW_at 565 (by rfl) (by rfl)), (wW_at 21 (by rfl) (by rfl)), ⟨by decide, by decide, by decide +kernel⟩, by decide, TX0, 6, rfl⟩
set_option maxRecDepth 20000 in
theorem cl_X0_66 : qCV RX0 66 1 0 mX0_firstBehind := ⟨(wW_at 570 (by rfl) (by rfl)), (wW_at 83 (by rfl) (by rfl)), (wW_at 567 (by rfl) (by rfl)), (wW_at 569 (by rfl) (by rfl)), (wW_at 22 (by rfl) (by rfl)), ⟨by decide, by decide, by decide +kernel⟩, by decide, TX0, 6, rfl⟩
set_option maxRecDepth 20000 in
theorem cl_X4_64 : qCV RX4 64 0 4 mX4_planLanes := ⟨(wW_at 574 (by rfl) (by rfl)), (wW_at 81 (by rfl) (by rfl)), (wW_at 571 (by rfl) (by rfl)), (wW_at 573 (by rfl) (by rfl)), (wW_at 23 (by rfl) (by rfl)), ⟨by decide, by decide, by decide +kernel⟩, by decide, TX4, 7, rfl⟩
set_option maxRecDepth 20000 in
theorem cl_X4_115 : qCV RX4 115 0 1 mX1_clear := ⟨(wW_at 578 (by rfl) (by rfl)), (wW_at 84 (by rfl) (by rfl)), (wW_at 575 (by rfl) (by rfl)), (wW_at 576 (by rfl) (by rfl)), (wW_at 577 (by rfl) (by rfl)), ⟨by decide, by decide, by decide +kernel⟩, by decide, TX1, 3, rfl⟩
set_option maxRecDepth 20000 in
theorem cl_X1_22 : qCS RX1 22 2 mJ7_fill_53178 := ⟨(wW_at 209 (by rfl) (by rfl)), (wW_at 86 (by rfl) (by rfl)), (wW_at 579 (by rfl) (by rfl)), (wW_at 208 (by rfl) (by rfl)), ⟨by decide, by decide, by decide +kernel⟩⟩
set_option maxRecDepth 20000 in
theorem cl_X4_76 : qCV RX4 76 1 4 mX4_firstRow := ⟨(wW_at 583 (by rfl) (by rfl)), (wW_at 81 (by rfl) (by rfl)), (wW_at 580 (by rfl) (by rfl)), (wW_at 582 (by rfl) (by rfl)), (wW_at 24 (by rfl) (by rfl)), ⟨by decide, by decide, by decide +kernel⟩, by decide, TX4, 7, rfl⟩
set_option maxRecDepth 20000 in
theorem cl_X4_80 : qCV RX4 80 1 4 mX4_lastRow := ⟨(wW_at 587 (by rfl) (by rfl)), (wW_at 81 (by rfl) (by rfl)), (wW_at 584 (by rfl) (by rfl)), (wW_at 586 (by rfl) (by rfl)), (wW_at 25 (by rfl) (by rfl)), ⟨by decide, by decide, by decide +kernel⟩, by decide, TX4, 7, rfl⟩
set_option maxRecDepth 20000 in
theorem cl_X4_118 : qCV RX4 118 3 1 mX1_give := ⟨(wW_at 591 (by rfl) (by rfl)), (wW_at 84 (by rfl) (by rfl)), (wW_at 588 (by rfl) (by rfl)), (wW_at 589 (by rfl) (by rfl)), (wW_at 590 (by rfl) (by rfl)), ⟨by decide, by decide, by decide +kernel⟩, by decide, TX1, 3, rfl⟩
set_option maxRecDepth 20000 in
theorem cl_X1_28 : Cond.methodLink RX1 28 Lib.Math.max.name ∈ wW := (wW_at 592 (by rfl) (by rfl))
set_option maxRecDepth 20000 in
theorem cl_L_58 : qCV RL 58 1 7 mX7_row := ⟨(wW_at 596 (by rfl) (by rfl)), (wW_at 79 (by rfl) (by rfl)), (wW_at 593 (by rfl) (by rfl)), (wW_at 594 (by rfl) (by rfl)), (wW_at 595 (by rfl) (by rfl)), ⟨by decide, by decide, by decide +kernel⟩, by decide, TX7, 6, rfl⟩
set_option maxRecDepth 20000 in
theorem cl_X7_109 : qCV RX7 109 1 4 mX4_hasRow := ⟨(wW_at 600 (by rfl) (by rfl)), (wW_at 81 (by rfl) (by rfl)), (wW_at 597 (by rfl) (by rfl)), (wW_at 598 (by rfl) (by rfl)), (wW_at 599 (by rfl) (by rfl)), ⟨by decide, by decide, by decide +kernel⟩, by decide, TX4, 7, rfl⟩
set_option maxRecDepth 20000 in
theorem cl_X7_112 : qCV RX7 112 1 4 mX4_stationOf := ⟨(wW_at 604 (by rfl) (by rfl)), (wW_at 81 (by rfl) (by rfl)), (wW_at 601 (by rfl) (by rfl)), (wW_at 602 (by rfl) (by rfl)), (wW_at 603 (by rfl) (by rfl)), ⟨by decide, by decide, by decide +kernel⟩, by decide, TX4, 7, rfl⟩
set_option maxRecDepth 20000 in
theorem cl_L_62 : qCV RL 62 1 7 mX7_column := ⟨(wW_at 608 (by rfl) (by rfl)), (wW_at 79 (by rfl) (by rfl)), (wW_at 605 (by rfl) (by rfl)), (wW_at 606 (by rfl) (by rfl)), (wW_at 607 (by rfl) (by rfl)), ⟨by decide, by decide, by decide +kernel⟩, by decide, TX7, 6, rfl⟩
set_option maxRecDepth 20000 in
theorem cl_X7_115 : qCV RX7 115 1 4 mX4_hasColumn := ⟨(wW_at 612 (by rfl) (by rfl)), (wW_at 81 (by rfl) (by rfl)), (wW_at 609 (by rfl) (by rfl)), (wW_at 610 (by rfl) (by rfl)), (wW_at 611 (by rfl) (by rfl)), ⟨by decide, by decide, by decide +kernel⟩, by decide, TX4, 7, rfl⟩
set_option maxRecDepth 20000 in
theorem cl_X7_118 : qCV RX7 118 1 4 mX4_trainOf := ⟨(wW_at 616 (by rfl) (by rfl)), (wW_at 81 (by rfl) (by rfl)), (wW_at 613 (by rfl) (by rfl)), (wW_at 614 (by rfl) (by rfl)), (wW_at 615 (by rfl) (by rfl)), ⟨by decide, by decide, by decide +kernel⟩, by decide, TX4, 7, rfl⟩
set_option maxRecDepth 20000 in
theorem cl_L_66 : qCV RL 66 3 7 mX7_cell := ⟨(wW_at 620 (by rfl) (by rfl)), (wW_at 79 (by rfl) (by rfl)), (wW_at 617 (by rfl) (by rfl)), (wW_at 618 (by rfl) (by rfl)), (wW_at 619 (by rfl) (by rfl)), ⟨by decide, by decide, by decide +kernel⟩, by decide, TX7, 6, rfl⟩
set_option maxRecDepth 20000 in
theorem cl_X7_120 : qCV RX7 120 3 4 mX4_read := ⟨(wW_at 624 (by rfl) (by rfl)), (wW_at 81 (by rfl) (by rfl)), (wW_at 621 (by rfl) (by rfl)), (wW_at 622 (by rfl) (by rfl)), (wW_at 623 (by rfl) (by rfl)), ⟨by decide, by decide, by decide +kernel⟩, by decide, TX4, 7, rfl⟩
set_option maxRecDepth 20000 in
theorem cl_L_71 : qCV RL 71 1 7 mX7_breaches := ⟨(wW_at 628 (by rfl) (by rfl)), (wW_at 79 (by rfl) (by rfl)), (wW_at 625 (by rfl) (by rfl)), (wW_at 626 (by rfl) (by rfl)), (wW_at 627 (by rfl) (by rfl)), ⟨by decide, by decide, by decide +kernel⟩, by decide, TX7, 6, rfl⟩
set_option maxRecDepth 20000 in
theorem cl_X7_123 : qCV RX7 123 0 4 mX4_isMade := ⟨(wW_at 632 (by rfl) (by rfl)), (wW_at 81 (by rfl) (by rfl)), (wW_at 629 (by rfl) (by rfl)), (wW_at 630 (by rfl) (by rfl)), (wW_at 631 (by rfl) (by rfl)), ⟨by decide, by decide, by decide +kernel⟩, by decide, TX4, 7, rfl⟩
set_option maxRecDepth 20000 in
theorem cl_X7_127 : qCV RX7 127 0 4 mX4_countBreaches := ⟨(wW_at 636 (by rfl) (by rfl)), (wW_at 81 (by rfl) (by rfl)), (wW_at 633 (by rfl) (by rfl)), (wW_at 634 (by rfl) (by rfl)), (wW_at 635 (by rfl) (by rfl)), ⟨by decide, by decide, by decide +kernel⟩, by decide, TX4, 7, rfl⟩
set_option maxRecDepth 20000 in
theorem cl_X7_130 : qCV RX7 130 0 4 mX4_countKnots := ⟨(wW_at 640 (by rfl) (by rfl)), (wW_at 81 (by rfl) (by rfl)), (wW_at 637 (by rfl) (by rfl)), (wW_at 638 (by rfl) (by rfl)), (wW_at 639 (by rfl) (by rfl)), ⟨by decide, by decide, by decide +kernel⟩, by decide, TX4, 7, rfl⟩
set_option maxRecDepth 20000 in
theorem cl_L_75 : qCV RL 75 2 7 mX7_breach := ⟨(wW_at 644 (by rfl) (by rfl)), (wW_at 79 (by rfl) (by rfl)), (wW_at 641 (by rfl) (by rfl)), (wW_at 642 (by rfl) (by rfl)), (wW_at 643 (by rfl) (by rfl)), ⟨by decide, by decide, by decide +kernel⟩, by decide, TX7, 6, rfl⟩
set_option maxRecDepth 20000 in
theorem cl_X7_133 : qCV RX7 133 2 4 mX4_isBreach := ⟨(wW_at 648 (by rfl) (by rfl)), (wW_at 81 (by rfl) (by rfl)), (wW_at 645 (by rfl) (by rfl)), (wW_at 646 (by rfl) (by rfl)), (wW_at 647 (by rfl) (by rfl)), ⟨by decide, by decide, by decide +kernel⟩, by decide, TX4, 7, rfl⟩
set_option maxRecDepth 20000 in
theorem cl_X4_98 : qCV RX4 98 2 0 mX0_wouldBreach := ⟨(wW_at 552 (by rfl) (by rfl)), (wW_at 83 (by rfl) (by rfl)), (wW_at 649 (by rfl) (by rfl)), (wW_at 550 (by rfl) (by rfl)), (wW_at 551 (by rfl) (by rfl)), ⟨by decide, by decide, by decide +kernel⟩, by decide, TX0, 6, rfl⟩
set_option maxRecDepth 20000 in
theorem cl_L_79 : qCV RL 79 0 7 mX7_lanes := ⟨(wW_at 653 (by rfl) (by rfl)), (wW_at 79 (by rfl) (by rfl)), (wW_at 650 (by rfl) (by rfl)), (wW_at 651 (by rfl) (by rfl)), (wW_at 652 (by rfl) (by rfl)), ⟨by decide, by decide, by decide +kernel⟩, by decide, TX7, 6, rfl⟩
set_option maxRecDepth 20000 in
theorem cl_X7_137 : qCV RX7 137 0 4 mX4_laneCount := ⟨(wW_at 657 (by rfl) (by rfl)), (wW_at 81 (by rfl) (by rfl)), (wW_at 654 (by rfl) (by rfl)), (wW_at 655 (by rfl) (by rfl)), (wW_at 656 (by rfl) (by rfl)), ⟨by decide, by decide, by decide +kernel⟩, by decide, TX4, 7, rfl⟩
set_option maxRecDepth 20000 in
theorem cl_L_84 : qCV RL 84 1 7 mX7_lane := ⟨(wW_at 661 (by rfl) (by rfl)), (wW_at 79 (by rfl) (by rfl)), (wW_at 658 (by rfl) (by rfl)), (wW_at 659 (by rfl) (by rfl)), (wW_at 660 (by rfl) (by rfl)), ⟨by decide, by decide, by decide +kernel⟩, by decide, TX7, 6, rfl⟩
set_option maxRecDepth 20000 in
theorem cl_X7_140 : qCV RX7 140 1 4 mX4_laneOf := ⟨(wW_at 665 (by rfl) (by rfl)), (wW_at 81 (by rfl) (by rfl)), (wW_at 662 (by rfl) (by rfl)), (wW_at 663 (by rfl) (by rfl)), (wW_at 664 (by rfl) (by rfl)), ⟨by decide, by decide, by decide +kernel⟩, by decide, TX4, 7, rfl⟩
set_option maxRecDepth 20000 in
theorem cl_L_88 : qCV RL 88 5 7 mX7_way := ⟨(wW_at 669 (by rfl) (by rfl)), (wW_at 79 (by rfl) (by rfl)), (wW_at 666 (by rfl) (by rfl)), (wW_at 667 (by rfl) (by rfl)), (wW_at 668 (by rfl) (by rfl)), ⟨by decide, by decide, by decide +kernel⟩, by decide, TX7, 6, rfl⟩
set_option maxRecDepth 20000 in
theorem cl_X7_143 : qCS RX7 143 3 mX7_canTravel := ⟨(wW_at 672 (by rfl) (by rfl)), (wW_at 79 (by rfl) (by rfl)), (wW_at 670 (by rfl) (by rfl)), (wW_at 671 (by rfl) (by rfl)), ⟨by decide, by decide, by decide +kernel⟩⟩
set_option maxRecDepth 20000 in
theorem cl_X7_146 : qCV RX7 146 4 6 mX6_setOut := ⟨(wW_at 676 (by rfl) (by rfl)), (wW_at 87 (by rfl) (by rfl)), (wW_at 673 (by rfl) (by rfl)), (wW_at 674 (by rfl) (by rfl)), (wW_at 675 (by rfl) (by rfl)), ⟨by decide, by decide, by decide +kernel⟩, by decide, TX6, 16, rfl⟩
set_option maxRecDepth 20000 in
theorem cl_X7_150 : qCV RX7 150 3 6 mX6_findBest := ⟨(wW_at 680 (by rfl) (by rfl)), (wW_at 87 (by rfl) (by rfl)), (wW_at 677 (by rfl) (by rfl)), (wW_at 678 (by rfl) (by rfl)), (wW_at 679 (by rfl) (by rfl)), ⟨by decide, by decide, by decide +kernel⟩, by decide, TX6, 16, rfl⟩
set_option maxRecDepth 20000 in
theorem cl_X6_52 : qCV RX6 52 3 6 mX6_soonestAt := ⟨(wW_at 684 (by rfl) (by rfl)), (wW_at 87 (by rfl) (by rfl)), (wW_at 681 (by rfl) (by rfl)), (wW_at 683 (by rfl) (by rfl)), (wW_at 26 (by rfl) (by rfl)), ⟨by decide, by decide, by decide +kernel⟩, by decide, TX6, 16, rfl⟩
set_option maxRecDepth 20000 in
theorem cl_X6_97 : qCS RX6 97 2 mJ7_fill_53178 := ⟨(wW_at 209 (by rfl) (by rfl)), (wW_at 86 (by rfl) (by rfl)), (wW_at 686 (by rfl) (by rfl)), (wW_at 208 (by rfl) (by rfl)), ⟨by decide, by decide, by decide +kernel⟩⟩
set_option maxRecDepth 20000 in
theorem cl_X6_103 : qCV RX6 103 1 5 mX5_runsOn := ⟨(wW_at 690 (by rfl) (by rfl)), (wW_at 85 (by rfl) (by rfl)), (wW_at 687 (by rfl) (by rfl)), (wW_at 688 (by rfl) (by rfl)), (wW_at 689 (by rfl) (by rfl)), ⟨by decide, by decide, by decide +kernel⟩, by decide, TX5, 6, rfl⟩
set_option maxRecDepth 20000 in
theorem cl_X6_107 : qCV RX6 107 1 6 mX6_ride := ⟨(wW_at 694 (by rfl) (by rfl)), (wW_at 87 (by rfl) (by rfl)), (wW_at 691 (by rfl) (by rfl)), (wW_at 693 (by rfl) (by rfl)), (wW_at 27 (by rfl) (by rfl)), ⟨by decide, by decide, by decide +kernel⟩, by decide, TX6, 16, rfl⟩
set_option maxRecDepth 20000 in
theorem cl_X6_60 : qCV RX6 60 3 6 mX6_countLegs := ⟨(wW_at 698 (by rfl) (by rfl)), (wW_at 87 (by rfl) (by rfl)), (wW_at 695 (by rfl) (by rfl)), (wW_at 697 (by rfl) (by rfl)), (wW_at 28 (by rfl) (by rfl)), ⟨by decide, by decide, by decide +kernel⟩, by decide, TX6, 16, rfl⟩
set_option maxRecDepth 20000 in
theorem cl_X6_114 : qCV RX6 114 2 6 mX6_lastBoardTo := ⟨(wW_at 702 (by rfl) (by rfl)), (wW_at 87 (by rfl) (by rfl)), (wW_at 699 (by rfl) (by rfl)), (wW_at 701 (by rfl) (by rfl)), (wW_at 29 (by rfl) (by rfl)), ⟨by decide, by decide, by decide +kernel⟩, by decide, TX6, 16, rfl⟩
set_option maxRecDepth 20000 in
theorem cl_X6_118 : qCV RX6 118 2 6 mX6_firstTrain := ⟨(wW_at 706 (by rfl) (by rfl)), (wW_at 87 (by rfl) (by rfl)), (wW_at 703 (by rfl) (by rfl)), (wW_at 705 (by rfl) (by rfl)), (wW_at 30 (by rfl) (by rfl)), ⟨by decide, by decide, by decide +kernel⟩, by decide, TX6, 16, rfl⟩
set_option maxRecDepth 20000 in
theorem cl_X6_121 : qCV RX6 121 2 6 mX6_lastBoardBefore := ⟨(wW_at 710 (by rfl) (by rfl)), (wW_at 87 (by rfl) (by rfl)), (wW_at 707 (by rfl) (by rfl)), (wW_at 709 (by rfl) (by rfl)), (wW_at 31 (by rfl) (by rfl)), ⟨by decide, by decide, by decide +kernel⟩, by decide, TX6, 16, rfl⟩
set_option maxRecDepth 20000 in
theorem cl_X6_127 : qCV RX6 127 4 6 mX6_canChange := ⟨(wW_at 714 (by rfl) (by rfl)), (wW_at 87 (by rfl) (by rfl)), (wW_at 711 (by rfl) (by rfl)), (wW_at 713 (by rfl) (by rfl)), (wW_at 32 (by rfl) (by rfl)), ⟨by decide, by decide, by decide +kernel⟩, by decide, TX6, 16, rfl⟩
set_option maxRecDepth 20000 in
theorem cl_X6_64 : qCV RX6 64 2 6 mX6_chooseTrains := ⟨(wW_at 718 (by rfl) (by rfl)), (wW_at 87 (by rfl) (by rfl)), (wW_at 715 (by rfl) (by rfl)), (wW_at 717 (by rfl) (by rfl)), (wW_at 33 (by rfl) (by rfl)), ⟨by decide, by decide, by decide +kernel⟩, by decide, TX6, 16, rfl⟩
set_option maxRecDepth 20000 in
theorem cl_X6_131 : Cond.methodLink RX6 131 Lib.Math.max.name ∈ wW := (wW_at 719 (by rfl) (by rfl))
set_option maxRecDepth 20000 in
theorem cl_X6_136 : qCV RX6 136 1 6 mX6_chooseTrain := ⟨(wW_at 723 (by rfl) (by rfl)), (wW_at 87 (by rfl) (by rfl)), (wW_at 720 (by rfl) (by rfl)), (wW_at 722 (by rfl) (by rfl)), (wW_at 34 (by rfl) (by rfl)), ⟨by decide, by decide, by decide +kernel⟩, by decide, TX6, 16, rfl⟩
set_option maxRecDepth 20000 in
theorem cl_X6_139 : qCV RX6 139 4 6 mX6_firstBoard := ⟨(wW_at 727 (by rfl) (by rfl)), (wW_at 87 (by rfl) (by rfl)), (wW_at 724 (by rfl) (by rfl)), (wW_at 726 (by rfl) (by rfl)), (wW_at 35 (by rfl) (by rfl)), ⟨by decide, by decide, by decide +kernel⟩, by decide, TX6, 16, rfl⟩
set_option maxRecDepth 20000 in
theorem cl_X6_143 : Cond.methodLink RX6 143 Lib.Math.min.name ∈ wW := (wW_at 728 (by rfl) (by rfl))
set_option maxRecDepth 20000 in
theorem cl_X6_68 : qCV RX6 68 2 6 mX6_chooseStations := ⟨(wW_at 732 (by rfl) (by rfl)), (wW_at 87 (by rfl) (by rfl)), (wW_at 729 (by rfl) (by rfl)), (wW_at 731 (by rfl) (by rfl)), (wW_at 36 (by rfl) (by rfl)), ⟨by decide, by decide, by decide +kernel⟩, by decide, TX6, 16, rfl⟩
set_option maxRecDepth 20000 in
theorem cl_X6_146 : qCV RX6 146 3 6 mX6_limitBefore := ⟨(wW_at 736 (by rfl) (by rfl)), (wW_at 87 (by rfl) (by rfl)), (wW_at 733 (by rfl) (by rfl)), (wW_at 735 (by rfl) (by rfl)), (wW_at 37 (by rfl) (by rfl)), ⟨by decide, by decide, by decide +kernel⟩, by decide, TX6, 16, rfl⟩
set_option maxRecDepth 20000 in
theorem cl_X6_150 : qCV RX6 150 1 6 mX6_leastChange := ⟨(wW_at 740 (by rfl) (by rfl)), (wW_at 87 (by rfl) (by rfl)), (wW_at 737 (by rfl) (by rfl)), (wW_at 739 (by rfl) (by rfl)), (wW_at 38 (by rfl) (by rfl)), ⟨by decide, by decide, by decide +kernel⟩, by decide, TX6, 16, rfl⟩
set_option maxRecDepth 20000 in
theorem cl_X7_153 : qCV RX7 153 1 6 mX6_read := ⟨(wW_at 744 (by rfl) (by rfl)), (wW_at 87 (by rfl) (by rfl)), (wW_at 741 (by rfl) (by rfl)), (wW_at 742 (by rfl) (by rfl)), (wW_at 743 (by rfl) (by rfl)), ⟨by decide, by decide, by decide +kernel⟩, by decide, TX6, 16, rfl⟩
set_option maxRecDepth 20000 in
theorem cl_X6_74 : qCV RX6 74 2 6 mX6_readLeg := ⟨(wW_at 748 (by rfl) (by rfl)), (wW_at 87 (by rfl) (by rfl)), (wW_at 745 (by rfl) (by rfl)), (wW_at 747 (by rfl) (by rfl)), (wW_at 39 (by rfl) (by rfl)), ⟨by decide, by decide, by decide +kernel⟩, by decide, TX6, 16, rfl⟩
set_option maxRecDepth 20000 in
theorem cl_L_93 : qCV RL 93 3 7 mX7_departures := ⟨(wW_at 752 (by rfl) (by rfl)), (wW_at 79 (by rfl) (by rfl)), (wW_at 749 (by rfl) (by rfl)), (wW_at 750 (by rfl) (by rfl)), (wW_at 751 (by rfl) (by rfl)), ⟨by decide, by decide, by decide +kernel⟩, by decide, TX7, 6, rfl⟩
set_option maxRecDepth 20000 in
theorem cl_X7_154 : qCV RX7 154 2 6 mX6_findDepartures := ⟨(wW_at 756 (by rfl) (by rfl)), (wW_at 87 (by rfl) (by rfl)), (wW_at 753 (by rfl) (by rfl)), (wW_at 754 (by rfl) (by rfl)), (wW_at 755 (by rfl) (by rfl)), ⟨by decide, by decide, by decide +kernel⟩, by decide, TX6, 16, rfl⟩
set_option maxRecDepth 20000 in
theorem cl_X6_78 : qCV RX6 78 1 6 mX6_collectMinutes := ⟨(wW_at 760 (by rfl) (by rfl)), (wW_at 87 (by rfl) (by rfl)), (wW_at 757 (by rfl) (by rfl)), (wW_at 759 (by rfl) (by rfl)), (wW_at 40 (by rfl) (by rfl)), ⟨by decide, by decide, by decide +kernel⟩, by decide, TX6, 16, rfl⟩
set_option maxRecDepth 20000 in
theorem cl_X6_154 : qCV RX6 154 1 6 mX6_insertMinute := ⟨(wW_at 764 (by rfl) (by rfl)), (wW_at 87 (by rfl) (by rfl)), (wW_at 761 (by rfl) (by rfl)), (wW_at 763 (by rfl) (by rfl)), (wW_at 41 (by rfl) (by rfl)), ⟨by decide, by decide, by decide +kernel⟩, by decide, TX6, 16, rfl⟩
set_option maxRecDepth 20000 in
theorem cl_L_97 : qCV RL 97 4 7 mX7_departure := ⟨(wW_at 768 (by rfl) (by rfl)), (wW_at 79 (by rfl) (by rfl)), (wW_at 765 (by rfl) (by rfl)), (wW_at 766 (by rfl) (by rfl)), (wW_at 767 (by rfl) (by rfl)), ⟨by decide, by decide, by decide +kernel⟩, by decide, TX7, 6, rfl⟩
set_option maxRecDepth 20000 in
theorem cl_X7_158 : qCV RX7 158 1 6 mX6_departureAt := ⟨(wW_at 772 (by rfl) (by rfl)), (wW_at 87 (by rfl) (by rfl)), (wW_at 769 (by rfl) (by rfl)), (wW_at 770 (by rfl) (by rfl)), (wW_at 771 (by rfl) (by rfl)), ⟨by decide, by decide, by decide +kernel⟩, by decide, TX6, 16, rfl⟩
set_option maxRecDepth 20000 in
theorem cl_L_12 : qCI RL 12 0 mX8_init := ⟨(wW_at 777 (by rfl) (by rfl)), (wW_at 88 (by rfl) (by rfl)), (wW_at 775 (by rfl) (by rfl)), (wW_at 776 (by rfl) (by rfl)), rfl, ⟨by decide, by decide, by decide +kernel⟩, rfl⟩
set_option maxRecDepth 20000 in
theorem cl_X8_1 : Cond.methodLink RX8 1 objectInit ∈ wW := (wW_at 778 (by rfl) (by rfl))
set_option maxRecDepth 20000 in
theorem cl_L_17 : qCV RL 17 1 8 mX8_train := ⟨(wW_at 890 (by rfl) (by rfl)), (wW_at 88 (by rfl) (by rfl)), (wW_at 887 (by rfl) (by rfl)), (wW_at 888 (by rfl) (by rfl)), (wW_at 889 (by rfl) (by rfl)), ⟨by decide, by decide, by decide +kernel⟩, by decide, TX8, 35, rfl⟩
set_option maxRecDepth 20000 in
theorem cl_X8_100 : qCV RX8 100 1 8 mX8_isDays := ⟨(wW_at 894 (by rfl) (by rfl)), (wW_at 88 (by rfl) (by rfl)), (wW_at 891 (by rfl) (by rfl)), (wW_at 893 (by rfl) (by rfl)), (wW_at 42 (by rfl) (by rfl)), ⟨by decide, by decide, by decide +kernel⟩, by decide, TX8, 35, rfl⟩
set_option maxRecDepth 20000 in
theorem cl_L_22 : qCV RL 22 4 8 mX8_stop := ⟨(wW_at 898 (by rfl) (by rfl)), (wW_at 88 (by rfl) (by rfl)), (wW_at 895 (by rfl) (by rfl)), (wW_at 896 (by rfl) (by rfl)), (wW_at 897 (by rfl) (by rfl)), ⟨by decide, by decide, by decide +kernel⟩, by decide, TX8, 35, rfl⟩
set_option maxRecDepth 20000 in
theorem cl_X8_104 : qCV RX8 104 1 8 mX8_isTrain := ⟨(wW_at 902 (by rfl) (by rfl)), (wW_at 88 (by rfl) (by rfl)), (wW_at 899 (by rfl) (by rfl)), (wW_at 901 (by rfl) (by rfl)), (wW_at 43 (by rfl) (by rfl)), ⟨by decide, by decide, by decide +kernel⟩, by decide, TX8, 35, rfl⟩
set_option maxRecDepth 20000 in
theorem cl_X8_107 : qCV RX8 107 1 8 mX8_isStation := ⟨(wW_at 906 (by rfl) (by rfl)), (wW_at 88 (by rfl) (by rfl)), (wW_at 903 (by rfl) (by rfl)), (wW_at 905 (by rfl) (by rfl)), (wW_at 44 (by rfl) (by rfl)), ⟨by decide, by decide, by decide +kernel⟩, by decide, TX8, 35, rfl⟩
set_option maxRecDepth 20000 in
theorem cl_X8_110 : qCV RX8 110 1 8 mX8_isMinute := ⟨(wW_at 910 (by rfl) (by rfl)), (wW_at 88 (by rfl) (by rfl)), (wW_at 907 (by rfl) (by rfl)), (wW_at 909 (by rfl) (by rfl)), (wW_at 45 (by rfl) (by rfl)), ⟨by decide, by decide, by decide +kernel⟩, by decide, TX8, 35, rfl⟩
set_option maxRecDepth 20000 in
theorem cl_X8_113 : qCV RX8 113 2 8 mX8_stopAt := ⟨(wW_at 914 (by rfl) (by rfl)), (wW_at 88 (by rfl) (by rfl)), (wW_at 911 (by rfl) (by rfl)), (wW_at 913 (by rfl) (by rfl)), (wW_at 46 (by rfl) (by rfl)), ⟨by decide, by decide, by decide +kernel⟩, by decide, TX8, 35, rfl⟩
set_option maxRecDepth 20000 in
theorem cl_L_27 : qCV RL 27 2 8 mX8_days := ⟨(wW_at 918 (by rfl) (by rfl)), (wW_at 88 (by rfl) (by rfl)), (wW_at 915 (by rfl) (by rfl)), (wW_at 916 (by rfl) (by rfl)), (wW_at 917 (by rfl) (by rfl)), ⟨by decide, by decide, by decide +kernel⟩, by decide, TX8, 35, rfl⟩
set_option maxRecDepth 20000 in
theorem cl_L_32 : qCV RL 32 1 8 mX8_cut := ⟨(wW_at 922 (by rfl) (by rfl)), (wW_at 88 (by rfl) (by rfl)), (wW_at 919 (by rfl) (by rfl)), (wW_at 920 (by rfl) (by rfl)), (wW_at 921 (by rfl) (by rfl)), ⟨by decide, by decide, by decide +kernel⟩, by decide, TX8, 35, rfl⟩
set_option maxRecDepth 20000 in
theorem cl_L_36 : qCV RL 36 2 8 mX8_shift := ⟨(wW_at 926 (by rfl) (by rfl)), (wW_at 88 (by rfl) (by rfl)), (wW_at 923 (by rfl) (by rfl)), (wW_at 924 (by rfl) (by rfl)), (wW_at 925 (by rfl) (by rfl)), ⟨by decide, by decide, by decide +kernel⟩, by decide, TX8, 35, rfl⟩
set_option maxRecDepth 20000 in
theorem cl_L_40 : qCV RL 40 2 8 mX8_sign := ⟨(wW_at 930 (by rfl) (by rfl)), (wW_at 88 (by rfl) (by rfl)), (wW_at 927 (by rfl) (by rfl)), (wW_at 928 (by rfl) (by rfl)), (wW_at 929 (by rfl) (by rfl)), ⟨by decide, by decide, by decide +kernel⟩, by decide, TX8, 35, rfl⟩
set_option maxRecDepth 20000 in
theorem cl_L_44 : qCV RL 44 1 8 mX8_change := ⟨(wW_at 934 (by rfl) (by rfl)), (wW_at 88 (by rfl) (by rfl)), (wW_at 931 (by rfl) (by rfl)), (wW_at 932 (by rfl) (by rfl)), (wW_at 933 (by rfl) (by rfl)), ⟨by decide, by decide, by decide +kernel⟩, by decide, TX8, 35, rfl⟩
set_option maxRecDepth 20000 in
theorem cl_L_48 : qCV RL 48 1 8 mX8_about := ⟨(wW_at 938 (by rfl) (by rfl)), (wW_at 88 (by rfl) (by rfl)), (wW_at 935 (by rfl) (by rfl)), (wW_at 936 (by rfl) (by rfl)), (wW_at 937 (by rfl) (by rfl)), ⟨by decide, by decide, by decide +kernel⟩, by decide, TX8, 35, rfl⟩
set_option maxRecDepth 20000 in
theorem cl_L_53 : qCV RL 53 2 8 mX8_signs := ⟨(wW_at 942 (by rfl) (by rfl)), (wW_at 88 (by rfl) (by rfl)), (wW_at 939 (by rfl) (by rfl)), (wW_at 940 (by rfl) (by rfl)), (wW_at 941 (by rfl) (by rfl)), ⟨by decide, by decide, by decide +kernel⟩, by decide, TX8, 35, rfl⟩
set_option maxRecDepth 20000 in
theorem cl_X8_123 : qCV RX8 123 1 8 mX8_ones := ⟨(wW_at 946 (by rfl) (by rfl)), (wW_at 88 (by rfl) (by rfl)), (wW_at 943 (by rfl) (by rfl)), (wW_at 945 (by rfl) (by rfl)), (wW_at 47 (by rfl) (by rfl)), ⟨by decide, by decide, by decide +kernel⟩, by decide, TX8, 35, rfl⟩
set_option maxRecDepth 20000 in
theorem cl_L_57 : qCV RL 57 1 8 mX8_table := ⟨(wW_at 950 (by rfl) (by rfl)), (wW_at 88 (by rfl) (by rfl)), (wW_at 947 (by rfl) (by rfl)), (wW_at 948 (by rfl) (by rfl)), (wW_at 949 (by rfl) (by rfl)), ⟨by decide, by decide, by decide +kernel⟩, by decide, TX8, 35, rfl⟩
set_option maxRecDepth 20000 in
theorem cl_X8_167 : qCV RX8 167 0 8 mX8_findRows := ⟨(wW_at 954 (by rfl) (by rfl)), (wW_at 88 (by rfl) (by rfl)), (wW_at 951 (by rfl) (by rfl)), (wW_at 953 (by rfl) (by rfl)), (wW_at 48 (by rfl) (by rfl)), ⟨by decide, by decide, by decide +kernel⟩, by decide, TX8, 35, rfl⟩
set_option maxRecDepth 20000 in
theorem cl_X8_130 : qCV RX8 130 1 8 mX8_isPlace := ⟨(wW_at 958 (by rfl) (by rfl)), (wW_at 88 (by rfl) (by rfl)), (wW_at 955 (by rfl) (by rfl)), (wW_at 957 (by rfl) (by rfl)), (wW_at 49 (by rfl) (by rfl)), ⟨by decide, by decide, by decide +kernel⟩, by decide, TX8, 35, rfl⟩
set_option maxRecDepth 20000 in
theorem cl_X8_127 : qCV RX8 127 2 8 mX8_digit := ⟨(wW_at 962 (by rfl) (by rfl)), (wW_at 88 (by rfl) (by rfl)), (wW_at 959 (by rfl) (by rfl)), (wW_at 961 (by rfl) (by rfl)), (wW_at 50 (by rfl) (by rfl)), ⟨by decide, by decide, by decide +kernel⟩, by decide, TX8, 35, rfl⟩
set_option maxRecDepth 20000 in
theorem cl_X8_133 : qCV RX8 133 2 8 mX8_behind := ⟨(wW_at 966 (by rfl) (by rfl)), (wW_at 88 (by rfl) (by rfl)), (wW_at 963 (by rfl) (by rfl)), (wW_at 965 (by rfl) (by rfl)), (wW_at 51 (by rfl) (by rfl)), ⟨by decide, by decide, by decide +kernel⟩, by decide, TX8, 35, rfl⟩
set_option maxRecDepth 20000 in
theorem cl_X8_170 : qCV RX8 170 0 8 mX8_findColumns := ⟨(wW_at 970 (by rfl) (by rfl)), (wW_at 88 (by rfl) (by rfl)), (wW_at 967 (by rfl) (by rfl)), (wW_at 969 (by rfl) (by rfl)), (wW_at 52 (by rfl) (by rfl)), ⟨by decide, by decide, by decide +kernel⟩, by decide, TX8, 35, rfl⟩
set_option maxRecDepth 20000 in
theorem cl_X8_147 : qCV RX8 147 1 8 mX8_breachesOf := ⟨(wW_at 974 (by rfl) (by rfl)), (wW_at 88 (by rfl) (by rfl)), (wW_at 971 (by rfl) (by rfl)), (wW_at 973 (by rfl) (by rfl)), (wW_at 53 (by rfl) (by rfl)), ⟨by decide, by decide, by decide +kernel⟩, by decide, TX8, 35, rfl⟩
set_option maxRecDepth 20000 in
theorem cl_X8_139 : qCV RX8 139 2 8 mX8_isBreach := ⟨(wW_at 978 (by rfl) (by rfl)), (wW_at 88 (by rfl) (by rfl)), (wW_at 975 (by rfl) (by rfl)), (wW_at 977 (by rfl) (by rfl)), (wW_at 54 (by rfl) (by rfl)), ⟨by decide, by decide, by decide +kernel⟩, by decide, TX8, 35, rfl⟩
set_option maxRecDepth 20000 in
theorem cl_X8_136 : qCV RX8 136 2 8 mX8_leaves := ⟨(wW_at 982 (by rfl) (by rfl)), (wW_at 88 (by rfl) (by rfl)), (wW_at 979 (by rfl) (by rfl)), (wW_at 981 (by rfl) (by rfl)), (wW_at 55 (by rfl) (by rfl)), ⟨by decide, by decide, by decide +kernel⟩, by decide, TX8, 35, rfl⟩
set_option maxRecDepth 20000 in
theorem cl_X8_151 : qCV RX8 151 0 8 mX8_goesOn := ⟨(wW_at 986 (by rfl) (by rfl)), (wW_at 88 (by rfl) (by rfl)), (wW_at 983 (by rfl) (by rfl)), (wW_at 985 (by rfl) (by rfl)), (wW_at 56 (by rfl) (by rfl)), ⟨by decide, by decide, by decide +kernel⟩, by decide, TX8, 35, rfl⟩
set_option maxRecDepth 20000 in
theorem cl_X8_143 : qCV RX8 143 2 8 mX8_swap := ⟨(wW_at 990 (by rfl) (by rfl)), (wW_at 88 (by rfl) (by rfl)), (wW_at 987 (by rfl) (by rfl)), (wW_at 989 (by rfl) (by rfl)), (wW_at 57 (by rfl) (by rfl)), ⟨by decide, by decide, by decide +kernel⟩, by decide, TX8, 35, rfl⟩
set_option maxRecDepth 20000 in
theorem cl_X8_173 : qCV RX8 173 0 8 mX8_findLanes := ⟨(wW_at 994 (by rfl) (by rfl)), (wW_at 88 (by rfl) (by rfl)), (wW_at 991 (by rfl) (by rfl)), (wW_at 993 (by rfl) (by rfl)), (wW_at 58 (by rfl) (by rfl)), ⟨by decide, by decide, by decide +kernel⟩, by decide, TX8, 35, rfl⟩
set_option maxRecDepth 20000 in
theorem cl_X8_158 : qCV RX8 158 1 8 mX8_first := ⟨(wW_at 998 (by rfl) (by rfl)), (wW_at 88 (by rfl) (by rfl)), (wW_at 995 (by rfl) (by rfl)), (wW_at 997 (by rfl) (by rfl)), (wW_at 59 (by rfl) (by rfl)), ⟨by decide, by decide, by decide +kernel⟩, by decide, TX8, 35, rfl⟩
set_option maxRecDepth 20000 in
theorem cl_X8_161 : qCV RX8 161 2 8 mX8_isFree := ⟨(wW_at 1002 (by rfl) (by rfl)), (wW_at 88 (by rfl) (by rfl)), (wW_at 999 (by rfl) (by rfl)), (wW_at 1001 (by rfl) (by rfl)), (wW_at 60 (by rfl) (by rfl)), ⟨by decide, by decide, by decide +kernel⟩, by decide, TX8, 35, rfl⟩
set_option maxRecDepth 20000 in
theorem cl_X8_164 : qCV RX8 164 1 8 mX8_last := ⟨(wW_at 1006 (by rfl) (by rfl)), (wW_at 88 (by rfl) (by rfl)), (wW_at 1003 (by rfl) (by rfl)), (wW_at 1005 (by rfl) (by rfl)), (wW_at 61 (by rfl) (by rfl)), ⟨by decide, by decide, by decide +kernel⟩, by decide, TX8, 35, rfl⟩
set_option maxRecDepth 20000 in
theorem cl_L_61 : qCV RL 61 1 8 mX8_row := ⟨(wW_at 1010 (by rfl) (by rfl)), (wW_at 88 (by rfl) (by rfl)), (wW_at 1007 (by rfl) (by rfl)), (wW_at 1008 (by rfl) (by rfl)), (wW_at 1009 (by rfl) (by rfl)), ⟨by decide, by decide, by decide +kernel⟩, by decide, TX8, 35, rfl⟩
set_option maxRecDepth 20000 in
theorem cl_L_65 : qCV RL 65 1 8 mX8_column := ⟨(wW_at 1014 (by rfl) (by rfl)), (wW_at 88 (by rfl) (by rfl)), (wW_at 1011 (by rfl) (by rfl)), (wW_at 1012 (by rfl) (by rfl)), (wW_at 1013 (by rfl) (by rfl)), ⟨by decide, by decide, by decide +kernel⟩, by decide, TX8, 35, rfl⟩
set_option maxRecDepth 20000 in
theorem cl_X8_176 : qCV RX8 176 1 8 mX8_isColumn := ⟨(wW_at 1018 (by rfl) (by rfl)), (wW_at 88 (by rfl) (by rfl)), (wW_at 1015 (by rfl) (by rfl)), (wW_at 1017 (by rfl) (by rfl)), (wW_at 62 (by rfl) (by rfl)), ⟨by decide, by decide, by decide +kernel⟩, by decide, TX8, 35, rfl⟩
set_option maxRecDepth 20000 in
theorem cl_L_70 : qCV RL 70 3 8 mX8_cell := ⟨(wW_at 1022 (by rfl) (by rfl)), (wW_at 88 (by rfl) (by rfl)), (wW_at 1019 (by rfl) (by rfl)), (wW_at 1020 (by rfl) (by rfl)), (wW_at 1021 (by rfl) (by rfl)), ⟨by decide, by decide, by decide +kernel⟩, by decide, TX8, 35, rfl⟩
set_option maxRecDepth 20000 in
theorem cl_L_74 : qCV RL 74 1 8 mX8_breaches := ⟨(wW_at 1026 (by rfl) (by rfl)), (wW_at 88 (by rfl) (by rfl)), (wW_at 1023 (by rfl) (by rfl)), (wW_at 1024 (by rfl) (by rfl)), (wW_at 1025 (by rfl) (by rfl)), ⟨by decide, by decide, by decide +kernel⟩, by decide, TX8, 35, rfl⟩
set_option maxRecDepth 20000 in
theorem cl_L_78 : qCV RL 78 2 8 mX8_breach := ⟨(wW_at 1030 (by rfl) (by rfl)), (wW_at 88 (by rfl) (by rfl)), (wW_at 1027 (by rfl) (by rfl)), (wW_at 1028 (by rfl) (by rfl)), (wW_at 1029 (by rfl) (by rfl)), ⟨by decide, by decide, by decide +kernel⟩, by decide, TX8, 35, rfl⟩
set_option maxRecDepth 20000 in
theorem cl_L_83 : qCV RL 83 0 8 mX8_lanes := ⟨(wW_at 1034 (by rfl) (by rfl)), (wW_at 88 (by rfl) (by rfl)), (wW_at 1031 (by rfl) (by rfl)), (wW_at 1032 (by rfl) (by rfl)), (wW_at 1033 (by rfl) (by rfl)), ⟨by decide, by decide, by decide +kernel⟩, by decide, TX8, 35, rfl⟩
set_option maxRecDepth 20000 in
theorem cl_L_87 : qCV RL 87 1 8 mX8_lane := ⟨(wW_at 1038 (by rfl) (by rfl)), (wW_at 88 (by rfl) (by rfl)), (wW_at 1035 (by rfl) (by rfl)), (wW_at 1036 (by rfl) (by rfl)), (wW_at 1037 (by rfl) (by rfl)), ⟨by decide, by decide, by decide +kernel⟩, by decide, TX8, 35, rfl⟩
set_option maxRecDepth 20000 in
theorem cl_L_92 : qCV RL 92 5 8 mX8_way := ⟨(wW_at 1042 (by rfl) (by rfl)), (wW_at 88 (by rfl) (by rfl)), (wW_at 1039 (by rfl) (by rfl)), (wW_at 1040 (by rfl) (by rfl)), (wW_at 1041 (by rfl) (by rfl)), ⟨by decide, by decide, by decide +kernel⟩, by decide, TX8, 35, rfl⟩
set_option maxRecDepth 20000 in
theorem cl_X8_225 : qCV RX8 225 4 8 mX8_finds := ⟨(wW_at 1046 (by rfl) (by rfl)), (wW_at 88 (by rfl) (by rfl)), (wW_at 1043 (by rfl) (by rfl)), (wW_at 1045 (by rfl) (by rfl)), (wW_at 63 (by rfl) (by rfl)), ⟨by decide, by decide, by decide +kernel⟩, by decide, TX8, 35, rfl⟩
set_option maxRecDepth 20000 in
theorem cl_X8_204 : qCV RX8 204 4 8 mX8_soonest := ⟨(wW_at 1050 (by rfl) (by rfl)), (wW_at 88 (by rfl) (by rfl)), (wW_at 1047 (by rfl) (by rfl)), (wW_at 1049 (by rfl) (by rfl)), (wW_at 64 (by rfl) (by rfl)), ⟨by decide, by decide, by decide +kernel⟩, by decide, TX8, 35, rfl⟩
set_option maxRecDepth 20000 in
theorem cl_X8_179 : qCV RX8 179 2 8 mX8_runs := ⟨(wW_at 1054 (by rfl) (by rfl)), (wW_at 88 (by rfl) (by rfl)), (wW_at 1051 (by rfl) (by rfl)), (wW_at 1053 (by rfl) (by rfl)), (wW_at 65 (by rfl) (by rfl)), ⟨by decide, by decide, by decide +kernel⟩, by decide, TX8, 35, rfl⟩
set_option maxRecDepth 20000 in
theorem cl_X8_185 : qCV RX8 185 4 8 mX8_isBoarded := ⟨(wW_at 1058 (by rfl) (by rfl)), (wW_at 88 (by rfl) (by rfl)), (wW_at 1055 (by rfl) (by rfl)), (wW_at 1057 (by rfl) (by rfl)), (wW_at 66 (by rfl) (by rfl)), ⟨by decide, by decide, by decide +kernel⟩, by decide, TX8, 35, rfl⟩
set_option maxRecDepth 20000 in
theorem cl_X8_182 : qCV RX8 182 2 8 mX8_canChange := ⟨(wW_at 1062 (by rfl) (by rfl)), (wW_at 88 (by rfl) (by rfl)), (wW_at 1059 (by rfl) (by rfl)), (wW_at 1061 (by rfl) (by rfl)), (wW_at 67 (by rfl) (by rfl)), ⟨by decide, by decide, by decide +kernel⟩, by decide, TX8, 35, rfl⟩
set_option maxRecDepth 20000 in
theorem cl_X8_208 : qCV RX8 208 2 8 mX8_findRest := ⟨(wW_at 1066 (by rfl) (by rfl)), (wW_at 88 (by rfl) (by rfl)), (wW_at 1063 (by rfl) (by rfl)), (wW_at 1065 (by rfl) (by rfl)), (wW_at 68 (by rfl) (by rfl)), ⟨by decide, by decide, by decide +kernel⟩, by decide, TX8, 35, rfl⟩
set_option maxRecDepth 20000 in
theorem cl_X8_192 : qCV RX8 192 3 8 mX8_canGoOn := ⟨(wW_at 1070 (by rfl) (by rfl)), (wW_at 88 (by rfl) (by rfl)), (wW_at 1067 (by rfl) (by rfl)), (wW_at 1069 (by rfl) (by rfl)), (wW_at 69 (by rfl) (by rfl)), ⟨by decide, by decide, by decide +kernel⟩, by decide, TX8, 35, rfl⟩
set_option maxRecDepth 20000 in
theorem cl_X8_214 : qCV RX8 214 5 8 mX8_firstTrain := ⟨(wW_at 1074 (by rfl) (by rfl)), (wW_at 88 (by rfl) (by rfl)), (wW_at 1071 (by rfl) (by rfl)), (wW_at 1073 (by rfl) (by rfl)), (wW_at 70 (by rfl) (by rfl)), ⟨by decide, by decide, by decide +kernel⟩, by decide, TX8, 35, rfl⟩
set_option maxRecDepth 20000 in
theorem cl_X8_200 : qCV RX8 200 5 8 mX8_leavesAt := ⟨(wW_at 1078 (by rfl) (by rfl)), (wW_at 88 (by rfl) (by rfl)), (wW_at 1075 (by rfl) (by rfl)), (wW_at 1077 (by rfl) (by rfl)), (wW_at 71 (by rfl) (by rfl)), ⟨by decide, by decide, by decide +kernel⟩, by decide, TX8, 35, rfl⟩
set_option maxRecDepth 20000 in
theorem cl_X8_196 : qCV RX8 196 4 8 mX8_canBoard := ⟨(wW_at 1082 (by rfl) (by rfl)), (wW_at 88 (by rfl) (by rfl)), (wW_at 1079 (by rfl) (by rfl)), (wW_at 1081 (by rfl) (by rfl)), (wW_at 72 (by rfl) (by rfl)), ⟨by decide, by decide, by decide +kernel⟩, by decide, TX8, 35, rfl⟩
set_option maxRecDepth 20000 in
theorem cl_X8_218 : qCV RX8 218 5 8 mX8_boardOf := ⟨(wW_at 1086 (by rfl) (by rfl)), (wW_at 88 (by rfl) (by rfl)), (wW_at 1083 (by rfl) (by rfl)), (wW_at 1085 (by rfl) (by rfl)), (wW_at 73 (by rfl) (by rfl)), ⟨by decide, by decide, by decide +kernel⟩, by decide, TX8, 35, rfl⟩
set_option maxRecDepth 20000 in
theorem cl_X8_222 : qCV RX8 222 3 8 mX8_restGoes := ⟨(wW_at 1090 (by rfl) (by rfl)), (wW_at 88 (by rfl) (by rfl)), (wW_at 1087 (by rfl) (by rfl)), (wW_at 1089 (by rfl) (by rfl)), (wW_at 74 (by rfl) (by rfl)), ⟨by decide, by decide, by decide +kernel⟩, by decide, TX8, 35, rfl⟩
set_option maxRecDepth 20000 in
theorem cl_L_96 : qCV RL 96 3 8 mX8_departures := ⟨(wW_at 1094 (by rfl) (by rfl)), (wW_at 88 (by rfl) (by rfl)), (wW_at 1091 (by rfl) (by rfl)), (wW_at 1092 (by rfl) (by rfl)), (wW_at 1093 (by rfl) (by rfl)), ⟨by decide, by decide, by decide +kernel⟩, by decide, TX8, 35, rfl⟩
set_option maxRecDepth 20000 in
theorem cl_X8_234 : qCV RX8 234 3 8 mX8_canDepart := ⟨(wW_at 1098 (by rfl) (by rfl)), (wW_at 88 (by rfl) (by rfl)), (wW_at 1095 (by rfl) (by rfl)), (wW_at 1097 (by rfl) (by rfl)), (wW_at 75 (by rfl) (by rfl)), ⟨by decide, by decide, by decide +kernel⟩, by decide, TX8, 35, rfl⟩
set_option maxRecDepth 20000 in
theorem cl_X8_237 : qCV RX8 237 3 8 mX8_findDepartures := ⟨(wW_at 1102 (by rfl) (by rfl)), (wW_at 88 (by rfl) (by rfl)), (wW_at 1099 (by rfl) (by rfl)), (wW_at 1101 (by rfl) (by rfl)), (wW_at 76 (by rfl) (by rfl)), ⟨by decide, by decide, by decide +kernel⟩, by decide, TX8, 35, rfl⟩
set_option maxRecDepth 20000 in
theorem cl_X8_231 : qCV RX8 231 3 8 mX8_isGone := ⟨(wW_at 1106 (by rfl) (by rfl)), (wW_at 88 (by rfl) (by rfl)), (wW_at 1103 (by rfl) (by rfl)), (wW_at 1105 (by rfl) (by rfl)), (wW_at 77 (by rfl) (by rfl)), ⟨by decide, by decide, by decide +kernel⟩, by decide, TX8, 35, rfl⟩
set_option maxRecDepth 20000 in
theorem cl_L_100 : qCV RL 100 4 8 mX8_departure := ⟨(wW_at 1110 (by rfl) (by rfl)), (wW_at 88 (by rfl) (by rfl)), (wW_at 1107 (by rfl) (by rfl)), (wW_at 1108 (by rfl) (by rfl)), (wW_at 1109 (by rfl) (by rfl)), ⟨by decide, by decide, by decide +kernel⟩, by decide, TX8, 35, rfl⟩
/-! the rest -/
set_option maxRecDepth 20000 in
theorem cx_min_s : Cond.static Lib.Math.min.name ∈ wW := (wW_at 445 (by rfl) (by rfl))
set_option maxRecDepth 20000 in
theorem cx_min_c : Cond.code Lib.Math.min.name Lib.Math.min.code 2 (some .int) ∈ wW := wW_at 446 (by rfl) (by rfl)
set_option maxRecDepth 20000 in
theorem cx_max_s : Cond.static Lib.Math.max.name ∈ wW := (wW_at 512 (by rfl) (by rfl))
set_option maxRecDepth 20000 in
theorem cx_max_c : Cond.code Lib.Math.max.name Lib.Math.max.code 2 (some .int) ∈ wW := wW_at 513 (by rfl) (by rfl)
set_option maxRecDepth 20000 in
theorem cx_math : Cond.initialized "java/lang/Math" ∈ wW := (wW_at 90 (by rfl) (by rfl))
set_option maxRecDepth 20000 in
theorem cx_sys : Cond.initialized "java/lang/System" ∈ wW := (wW_at 91 (by rfl) (by rfl))
set_option maxRecDepth 20000 in
theorem cx_cpn : Cond.native arraycopyName ∈ wW := (wW_at 470 (by rfl) (by rfl))
set_option maxRecDepth 20000 in
theorem cx_cps : Cond.static arraycopyName ∈ wW := (wW_at 469 (by rfl) (by rfl))
set_option maxRecDepth 20000 in
theorem cx_oi : Cond.instanceMethod objectInit ∈ wW := (wW_at 98 (by rfl) (by rfl))
set_option maxRecDepth 20000 in
theorem cx_oc : Cond.code objectInit ⟨#[0xb1]⟩ 1 none ∈ wW := wW_at 99 (by rfl) (by rfl)
set_option maxRecDepth 20000 in
theorem cc_L_7 : Cond.classLink RL 7 RX7 ∈ wW := (wW_at 92 (by rfl) (by rfl))
set_option maxRecDepth 20000 in
theorem cc_X7_9 : Cond.classLink RX7 9 RX5 ∈ wW := (wW_at 100 (by rfl) (by rfl))
set_option maxRecDepth 20000 in
theorem cc_X7_15 : Cond.classLink RX7 15 RX3 ∈ wW := (wW_at 102 (by rfl) (by rfl))
set_option maxRecDepth 20000 in
theorem ca_int : Cond.arrayClass .int ∈ wW := (wW_at 112 (by rfl) (by rfl))
set_option maxRecDepth 20000 in
theorem cc_X7_22 : Cond.classLink RX7 22 RX4 ∈ wW := (wW_at 113 (by rfl) (by rfl))
set_option maxRecDepth 20000 in
theorem cc_X4_9 : Cond.classLink RX4 9 RX5 ∈ wW := (wW_at 119 (by rfl) (by rfl))
set_option maxRecDepth 20000 in
theorem cc_X4_24 : Cond.classLink RX4 24 RX2 ∈ wW := (wW_at 120 (by rfl) (by rfl))
set_option maxRecDepth 20000 in
theorem cc_X4_31 : Cond.classLink RX4 31 RX0 ∈ wW := (wW_at 156 (by rfl) (by rfl))
set_option maxRecDepth 20000 in
theorem cc_X4_38 : Cond.classLink RX4 38 RX1 ∈ wW := (wW_at 184 (by rfl) (by rfl))
set_option maxRecDepth 20000 in
theorem cc_X7_29 : Cond.classLink RX7 29 RX6 ∈ wW := (wW_at 264 (by rfl) (by rfl))
set_option maxRecDepth 20000 in
theorem cc_X6_9 : Cond.classLink RX6 9 RX5 ∈ wW := (wW_at 270 (by rfl) (by rfl))
set_option maxRecDepth 20000 in
theorem ck_X5_34 : Cond.constantLong RX5 34 (1440) ∈ wW := (wW_at 386 (by rfl) (by rfl))
set_option maxRecDepth 20000 in
theorem ck_J6_265 : Cond.constant RJ6 265 (1431655765) ∈ wW := (wW_at 441 (by rfl) (by rfl))
set_option maxRecDepth 20000 in
theorem ck_J6_266 : Cond.constant RJ6 266 (858993459) ∈ wW := (wW_at 442 (by rfl) (by rfl))
set_option maxRecDepth 20000 in
theorem ck_J6_267 : Cond.constant RJ6 267 (252645135) ∈ wW := (wW_at 443 (by rfl) (by rfl))
set_option maxRecDepth 20000 in
theorem ck_X2_88 : Cond.constant RX2 88 (16777216) ∈ wW := (wW_at 492 (by rfl) (by rfl))
set_option maxRecDepth 20000 in
theorem ck_X6_59 : Cond.constant RX6 59 (1000000) ∈ wW := (wW_at 685 (by rfl) (by rfl))
set_option maxRecDepth 20000 in
theorem cc_L_10 : Cond.classLink RL 10 RX8 ∈ wW := (wW_at 773 (by rfl) (by rfl))
set_option maxRecDepth 20000 in
theorem ck_X8_59 : Cond.constant RX8 59 (262144) ∈ wW := (wW_at 779 (by rfl) (by rfl))
set_option maxRecDepth 20000 in
theorem ca_boolean : Cond.arrayClass .boolean ∈ wW := (wW_at 886 (by rfl) (by rfl))
set_option maxRecDepth 20000 in
theorem cn_X0 : Cond.instantiable RX0 6 ∈ wW := (wW_at 157 (by rfl) (by rfl))
set_option maxRecDepth 20000 in
theorem ci_X0 : Cond.initialized RX0 ∈ wW := (wW_at 83 (by rfl) (by rfl))
set_option maxRecDepth 20000 in
theorem cn_X1 : Cond.instantiable RX1 3 ∈ wW := (wW_at 185 (by rfl) (by rfl))
set_option maxRecDepth 20000 in
theorem ci_X1 : Cond.initialized RX1 ∈ wW := (wW_at 84 (by rfl) (by rfl))
set_option maxRecDepth 20000 in
theorem cn_X2 : Cond.instantiable RX2 9 ∈ wW := (wW_at 121 (by rfl) (by rfl))
set_option maxRecDepth 20000 in
theorem ci_X2 : Cond.initialized RX2 ∈ wW := (wW_at 82 (by rfl) (by rfl))
set_option maxRecDepth 20000 in
theorem cn_X3 : Cond.instantiable RX3 1 ∈ wW := (wW_at 103 (by rfl) (by rfl))
set_option maxRecDepth 20000 in
theorem ci_X3 : Cond.initialized RX3 ∈ wW := (wW_at 80 (by rfl) (by rfl))
set_option maxRecDepth 20000 in
theorem cn_X4 : Cond.instantiable RX4 7 ∈ wW := (wW_at 114 (by rfl) (by rfl))
set_option maxRecDepth 20000 in
theorem ci_X4 : Cond.initialized RX4 ∈ wW := (wW_at 81 (by rfl) (by rfl))
set_option maxRecDepth 20000 in
theorem cn_X5 : Cond.instantiable RX5 6 ∈ wW := (wW_at 202 (by rfl) (by rfl))
set_option maxRecDepth 20000 in
theorem ci_X5 : Cond.initialized RX5 ∈ wW := (wW_at 85 (by rfl) (by rfl))
set_option maxRecDepth 20000 in
theorem cn_X6 : Cond.instantiable RX6 16 ∈ wW := (wW_at 265 (by rfl) (by rfl))
set_option maxRecDepth 20000 in
theorem ci_X6 : Cond.initialized RX6 ∈ wW := (wW_at 87 (by rfl) (by rfl))
set_option maxRecDepth 20000 in
theorem cn_X7 : Cond.instantiable RX7 6 ∈ wW := (wW_at 93 (by rfl) (by rfl))
set_option maxRecDepth 20000 in
theorem ci_X7 : Cond.initialized RX7 ∈ wW := (wW_at 79 (by rfl) (by rfl))
set_option maxRecDepth 20000 in
theorem cn_X8 : Cond.instantiable RX8 35 ∈ wW := (wW_at 774 (by rfl) (by rfl))
set_option maxRecDepth 20000 in
theorem ci_X8 : Cond.initialized RX8 ∈ wW := (wW_at 88 (by rfl) (by rfl))
end
