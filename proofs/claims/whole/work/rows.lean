section
-- ===== PART A: goes FIRST, ahead of the names: the tables' words, and 'selects' of the private methods out of them =====
/-- a private method of a class that the tables say can be made, by its rows of tables_1 -/
def lw_okq (q : MethodName × Nat) : Prop := (q.1.cls ≠ "java/lang/invoke/MethodHandle" ∧ q.1.cls ≠ "java/lang/invoke/VarHandle") ∧ Cond.instantiable q.1.cls q.2 ∈ tables_1 ∧ Cond.privateMethod q.1 ∈ tables_1 ∧ Cond.instanceMethod q.1 ∈ tables_1
theorem lw_p0 : lw_okq (⟨"TrainBook", "trainOf", "(I)LTrainBook$Train;"⟩, 6) := ⟨⟨by decide +kernel, by decide +kernel⟩, List.mem_of_getElem? (i := 15) (by decide +kernel), List.mem_of_getElem? (i := 274) (by decide +kernel), List.mem_of_getElem? (i := 275) (by decide +kernel)⟩
theorem lw_p1 : lw_okq (⟨"TrainBook", "aboutBook", "(I)I"⟩, 6) := ⟨⟨by decide +kernel, by decide +kernel⟩, List.mem_of_getElem? (i := 15) (by decide +kernel), List.mem_of_getElem? (i := 330) (by decide +kernel), List.mem_of_getElem? (i := 331) (by decide +kernel)⟩
theorem lw_p2 : lw_okq (⟨"TrainBook$SignBook", "unionOf", "(I)I"⟩, 1) := ⟨⟨by decide +kernel, by decide +kernel⟩, List.mem_of_getElem? (i := 25) (by decide +kernel), List.mem_of_getElem? (i := 354) (by decide +kernel), List.mem_of_getElem? (i := 355) (by decide +kernel)⟩
theorem lw_p3 : lw_okq (⟨"TrainBook", "canBeTable", "(I)Z"⟩, 6) := ⟨⟨by decide +kernel, by decide +kernel⟩, List.mem_of_getElem? (i := 15) (by decide +kernel), List.mem_of_getElem? (i := 375) (by decide +kernel), List.mem_of_getElem? (i := 376) (by decide +kernel)⟩
theorem lw_p4 : lw_okq (⟨"TrainBook$Table", "takeMembers", "([LTrainBook$Train;I)V"⟩, 7) := ⟨⟨by decide +kernel, by decide +kernel⟩, List.mem_of_getElem? (i := 36) (by decide +kernel), List.mem_of_getElem? (i := 383) (by decide +kernel), List.mem_of_getElem? (i := 384) (by decide +kernel)⟩
theorem lw_p5 : lw_okq (⟨"TrainBook$RowSearch", "prepare", "([LTrainBook$Train;I)V"⟩, 9) := ⟨⟨by decide +kernel, by decide +kernel⟩, List.mem_of_getElem? (i := 43) (by decide +kernel), List.mem_of_getElem? (i := 398) (by decide +kernel), List.mem_of_getElem? (i := 399) (by decide +kernel)⟩
theorem lw_p6 : lw_okq (⟨"TrainBook$RowSearch", "readStops", "(LTrainBook$Train;I)V"⟩, 9) := ⟨⟨by decide +kernel, by decide +kernel⟩, List.mem_of_getElem? (i := 43) (by decide +kernel), List.mem_of_getElem? (i := 402) (by decide +kernel), List.mem_of_getElem? (i := 403) (by decide +kernel)⟩
theorem lw_p7 : lw_okq (⟨"TrainBook$RowSearch", "fillPair", "(ILTrainBook$Train;LTrainBook$Train;)V"⟩, 9) := ⟨⟨by decide +kernel, by decide +kernel⟩, List.mem_of_getElem? (i := 43) (by decide +kernel), List.mem_of_getElem? (i := 406) (by decide +kernel), List.mem_of_getElem? (i := 407) (by decide +kernel)⟩
theorem lw_p8 : lw_okq (⟨"TrainBook$RowSearch", "openKnown", "(I)V"⟩, 9) := ⟨⟨by decide +kernel, by decide +kernel⟩, List.mem_of_getElem? (i := 43) (by decide +kernel), List.mem_of_getElem? (i := 411) (by decide +kernel), List.mem_of_getElem? (i := 412) (by decide +kernel)⟩
theorem lw_p9 : lw_okq (⟨"TrainBook$RowSearch", "needOf", "(I)I"⟩, 9) := ⟨⟨by decide +kernel, by decide +kernel⟩, List.mem_of_getElem? (i := 43) (by decide +kernel), List.mem_of_getElem? (i := 417) (by decide +kernel), List.mem_of_getElem? (i := 418) (by decide +kernel)⟩
theorem lw_p10 : lw_okq (⟨"TrainBook$RowSearch", "leastNeed", "(I)I"⟩, 9) := ⟨⟨by decide +kernel, by decide +kernel⟩, List.mem_of_getElem? (i := 43) (by decide +kernel), List.mem_of_getElem? (i := 421) (by decide +kernel), List.mem_of_getElem? (i := 422) (by decide +kernel)⟩
theorem lw_p11 : lw_okq (⟨"TrainBook$RowSearch", "placeOf", "(II)I"⟩, 9) := ⟨⟨by decide +kernel, by decide +kernel⟩, List.mem_of_getElem? (i := 43) (by decide +kernel), List.mem_of_getElem? (i := 425) (by decide +kernel), List.mem_of_getElem? (i := 426) (by decide +kernel)⟩
theorem lw_p12 : lw_okq (⟨"TrainBook$RowSearch", "pairNeedAt", "(III)I"⟩, 9) := ⟨⟨by decide +kernel, by decide +kernel⟩, List.mem_of_getElem? (i := 43) (by decide +kernel), List.mem_of_getElem? (i := 430) (by decide +kernel), List.mem_of_getElem? (i := 431) (by decide +kernel)⟩
theorem lw_p13 : lw_okq (⟨"TrainBook$RowSearch", "keep", "(II)V"⟩, 9) := ⟨⟨by decide +kernel, by decide +kernel⟩, List.mem_of_getElem? (i := 43) (by decide +kernel), List.mem_of_getElem? (i := 437) (by decide +kernel), List.mem_of_getElem? (i := 438) (by decide +kernel)⟩
theorem lw_p14 : lw_okq (⟨"TrainBook$RowSearch", "nextStations", "(I)I"⟩, 9) := ⟨⟨by decide +kernel, by decide +kernel⟩, List.mem_of_getElem? (i := 43) (by decide +kernel), List.mem_of_getElem? (i := 444) (by decide +kernel), List.mem_of_getElem? (i := 445) (by decide +kernel)⟩
theorem lw_p15 : lw_okq (⟨"TrainBook$RowSearch", "passed", "(II)I"⟩, 9) := ⟨⟨by decide +kernel, by decide +kernel⟩, List.mem_of_getElem? (i := 43) (by decide +kernel), List.mem_of_getElem? (i := 448) (by decide +kernel), List.mem_of_getElem? (i := 449) (by decide +kernel)⟩
def lw_privs_1 : List (MethodName × Nat) := [(⟨"TrainBook", "trainOf", "(I)LTrainBook$Train;"⟩, 6), (⟨"TrainBook", "aboutBook", "(I)I"⟩, 6), (⟨"TrainBook$SignBook", "unionOf", "(I)I"⟩, 1), (⟨"TrainBook", "canBeTable", "(I)Z"⟩, 6), (⟨"TrainBook$Table", "takeMembers", "([LTrainBook$Train;I)V"⟩, 7), (⟨"TrainBook$RowSearch", "prepare", "([LTrainBook$Train;I)V"⟩, 9), (⟨"TrainBook$RowSearch", "readStops", "(LTrainBook$Train;I)V"⟩, 9), (⟨"TrainBook$RowSearch", "fillPair", "(ILTrainBook$Train;LTrainBook$Train;)V"⟩, 9), (⟨"TrainBook$RowSearch", "openKnown", "(I)V"⟩, 9), (⟨"TrainBook$RowSearch", "needOf", "(I)I"⟩, 9), (⟨"TrainBook$RowSearch", "leastNeed", "(I)I"⟩, 9), (⟨"TrainBook$RowSearch", "placeOf", "(II)I"⟩, 9), (⟨"TrainBook$RowSearch", "pairNeedAt", "(III)I"⟩, 9), (⟨"TrainBook$RowSearch", "keep", "(II)V"⟩, 9), (⟨"TrainBook$RowSearch", "nextStations", "(I)I"⟩, 9), (⟨"TrainBook$RowSearch", "passed", "(II)I"⟩, 9)]
theorem lw_r1 : ∀ q ∈ lw_privs_1, lw_okq q := List.forall_mem_cons.mpr ⟨lw_p0, List.forall_mem_cons.mpr ⟨lw_p1, List.forall_mem_cons.mpr ⟨lw_p2, List.forall_mem_cons.mpr ⟨lw_p3, List.forall_mem_cons.mpr ⟨lw_p4, List.forall_mem_cons.mpr ⟨lw_p5, List.forall_mem_cons.mpr ⟨lw_p6, List.forall_mem_cons.mpr ⟨lw_p7, List.forall_mem_cons.mpr ⟨lw_p8, List.forall_mem_cons.mpr ⟨lw_p9, List.forall_mem_cons.mpr ⟨lw_p10, List.forall_mem_cons.mpr ⟨lw_p11, List.forall_mem_cons.mpr ⟨lw_p12, List.forall_mem_cons.mpr ⟨lw_p13, List.forall_mem_cons.mpr ⟨lw_p14, List.forall_mem_cons.mpr ⟨lw_p15, fun _ h => absurd h List.not_mem_nil⟩⟩⟩⟩⟩⟩⟩⟩⟩⟩⟩⟩⟩⟩⟩⟩
theorem lw_p16 : lw_okq (⟨"TrainBook$Table", "placeStops", "(I)V"⟩, 7) := ⟨⟨by decide +kernel, by decide +kernel⟩, List.mem_of_getElem? (i := 36) (by decide +kernel), List.mem_of_getElem? (i := 452) (by decide +kernel), List.mem_of_getElem? (i := 453) (by decide +kernel)⟩
theorem lw_p17 : lw_okq (⟨"TrainBook$ColumnOrder", "breachedBy", "([LTrainBook$Train;I)I"⟩, 6) := ⟨⟨by decide +kernel, by decide +kernel⟩, List.mem_of_getElem? (i := 79) (by decide +kernel), List.mem_of_getElem? (i := 460) (by decide +kernel), List.mem_of_getElem? (i := 461) (by decide +kernel)⟩
theorem lw_p18 : lw_okq (⟨"TrainBook$Train", "leaves", "(I)I"⟩, 6) := ⟨⟨by decide +kernel, by decide +kernel⟩, List.mem_of_getElem? (i := 124) (by decide +kernel), List.mem_of_getElem? (i := 468) (by decide +kernel), List.mem_of_getElem? (i := 469) (by decide +kernel)⟩
theorem lw_p19 : lw_okq (⟨"TrainBook$ColumnOrder", "fillFewest", "()V"⟩, 6) := ⟨⟨by decide +kernel, by decide +kernel⟩, List.mem_of_getElem? (i := 79) (by decide +kernel), List.mem_of_getElem? (i := 476) (by decide +kernel), List.mem_of_getElem? (i := 477) (by decide +kernel)⟩
theorem lw_p20 : lw_okq (⟨"TrainBook$ColumnOrder", "fewestWith", "(II)I"⟩, 6) := ⟨⟨by decide +kernel, by decide +kernel⟩, List.mem_of_getElem? (i := 79) (by decide +kernel), List.mem_of_getElem? (i := 480) (by decide +kernel), List.mem_of_getElem? (i := 481) (by decide +kernel)⟩
theorem lw_p21 : lw_okq (⟨"TrainBook$ColumnOrder", "setOrder", "()V"⟩, 6) := ⟨⟨by decide +kernel, by decide +kernel⟩, List.mem_of_getElem? (i := 79) (by decide +kernel), List.mem_of_getElem? (i := 486) (by decide +kernel), List.mem_of_getElem? (i := 487) (by decide +kernel)⟩
theorem lw_p22 : lw_okq (⟨"TrainBook$ColumnOrder", "firstBehind", "(I)I"⟩, 6) := ⟨⟨by decide +kernel, by decide +kernel⟩, List.mem_of_getElem? (i := 79) (by decide +kernel), List.mem_of_getElem? (i := 490) (by decide +kernel), List.mem_of_getElem? (i := 491) (by decide +kernel)⟩
theorem lw_p23 : lw_okq (⟨"TrainBook$Table", "planLanes", "()V"⟩, 7) := ⟨⟨by decide +kernel, by decide +kernel⟩, List.mem_of_getElem? (i := 36) (by decide +kernel), List.mem_of_getElem? (i := 494) (by decide +kernel), List.mem_of_getElem? (i := 495) (by decide +kernel)⟩
theorem lw_p24 : lw_okq (⟨"TrainBook$Table", "firstRow", "(I)I"⟩, 7) := ⟨⟨by decide +kernel, by decide +kernel⟩, List.mem_of_getElem? (i := 36) (by decide +kernel), List.mem_of_getElem? (i := 503) (by decide +kernel), List.mem_of_getElem? (i := 504) (by decide +kernel)⟩
theorem lw_p25 : lw_okq (⟨"TrainBook$Table", "lastRow", "(I)I"⟩, 7) := ⟨⟨by decide +kernel, by decide +kernel⟩, List.mem_of_getElem? (i := 36) (by decide +kernel), List.mem_of_getElem? (i := 507) (by decide +kernel), List.mem_of_getElem? (i := 508) (by decide +kernel)⟩
theorem lw_p26 : lw_okq (⟨"TrainBook$WayFinder", "soonestAt", "(III)I"⟩, 16) := ⟨⟨by decide +kernel, by decide +kernel⟩, List.mem_of_getElem? (i := 187) (by decide +kernel), List.mem_of_getElem? (i := 604) (by decide +kernel), List.mem_of_getElem? (i := 605) (by decide +kernel)⟩
theorem lw_p27 : lw_okq (⟨"TrainBook$WayFinder", "ride", "(LTrainBook$Train;)Z"⟩, 16) := ⟨⟨by decide +kernel, by decide +kernel⟩, List.mem_of_getElem? (i := 187) (by decide +kernel), List.mem_of_getElem? (i := 614) (by decide +kernel), List.mem_of_getElem? (i := 615) (by decide +kernel)⟩
theorem lw_p28 : lw_okq (⟨"TrainBook$WayFinder", "countLegs", "(III)V"⟩, 16) := ⟨⟨by decide +kernel, by decide +kernel⟩, List.mem_of_getElem? (i := 187) (by decide +kernel), List.mem_of_getElem? (i := 618) (by decide +kernel), List.mem_of_getElem? (i := 619) (by decide +kernel)⟩
theorem lw_p29 : lw_okq (⟨"TrainBook$WayFinder", "lastBoardTo", "(LTrainBook$Train;I)I"⟩, 16) := ⟨⟨by decide +kernel, by decide +kernel⟩, List.mem_of_getElem? (i := 187) (by decide +kernel), List.mem_of_getElem? (i := 622) (by decide +kernel), List.mem_of_getElem? (i := 623) (by decide +kernel)⟩
theorem lw_p30 : lw_okq (⟨"TrainBook$WayFinder", "firstTrain", "(II)I"⟩, 16) := ⟨⟨by decide +kernel, by decide +kernel⟩, List.mem_of_getElem? (i := 187) (by decide +kernel), List.mem_of_getElem? (i := 626) (by decide +kernel), List.mem_of_getElem? (i := 627) (by decide +kernel)⟩
theorem lw_p31 : lw_okq (⟨"TrainBook$WayFinder", "lastBoardBefore", "(LTrainBook$Train;I)I"⟩, 16) := ⟨⟨by decide +kernel, by decide +kernel⟩, List.mem_of_getElem? (i := 187) (by decide +kernel), List.mem_of_getElem? (i := 630) (by decide +kernel), List.mem_of_getElem? (i := 631) (by decide +kernel)⟩
def lw_privs_2 : List (MethodName × Nat) := [(⟨"TrainBook$Table", "placeStops", "(I)V"⟩, 7), (⟨"TrainBook$ColumnOrder", "breachedBy", "([LTrainBook$Train;I)I"⟩, 6), (⟨"TrainBook$Train", "leaves", "(I)I"⟩, 6), (⟨"TrainBook$ColumnOrder", "fillFewest", "()V"⟩, 6), (⟨"TrainBook$ColumnOrder", "fewestWith", "(II)I"⟩, 6), (⟨"TrainBook$ColumnOrder", "setOrder", "()V"⟩, 6), (⟨"TrainBook$ColumnOrder", "firstBehind", "(I)I"⟩, 6), (⟨"TrainBook$Table", "planLanes", "()V"⟩, 7), (⟨"TrainBook$Table", "firstRow", "(I)I"⟩, 7), (⟨"TrainBook$Table", "lastRow", "(I)I"⟩, 7), (⟨"TrainBook$WayFinder", "soonestAt", "(III)I"⟩, 16), (⟨"TrainBook$WayFinder", "ride", "(LTrainBook$Train;)Z"⟩, 16), (⟨"TrainBook$WayFinder", "countLegs", "(III)V"⟩, 16), (⟨"TrainBook$WayFinder", "lastBoardTo", "(LTrainBook$Train;I)I"⟩, 16), (⟨"TrainBook$WayFinder", "firstTrain", "(II)I"⟩, 16), (⟨"TrainBook$WayFinder", "lastBoardBefore", "(LTrainBook$Train;I)I"⟩, 16)]
theorem lw_r2 : ∀ q ∈ lw_privs_2, lw_okq q := List.forall_mem_cons.mpr ⟨lw_p16, List.forall_mem_cons.mpr ⟨lw_p17, List.forall_mem_cons.mpr ⟨lw_p18, List.forall_mem_cons.mpr ⟨lw_p19, List.forall_mem_cons.mpr ⟨lw_p20, List.forall_mem_cons.mpr ⟨lw_p21, List.forall_mem_cons.mpr ⟨lw_p22, List.forall_mem_cons.mpr ⟨lw_p23, List.forall_mem_cons.mpr ⟨lw_p24, List.forall_mem_cons.mpr ⟨lw_p25, List.forall_mem_cons.mpr ⟨lw_p26, List.forall_mem_cons.mpr ⟨lw_p27, List.forall_mem_cons.mpr ⟨lw_p28, List.forall_mem_cons.mpr ⟨lw_p29, List.forall_mem_cons.mpr ⟨lw_p30, List.forall_mem_cons.mpr ⟨lw_p31, fun _ h => absurd h List.not_mem_nil⟩⟩⟩⟩⟩⟩⟩⟩⟩⟩⟩⟩⟩⟩⟩⟩
theorem lw_p32 : lw_okq (⟨"TrainBook$WayFinder", "canChange", "(LTrainBook$Train;ILTrainBook$Train;I)Z"⟩, 16) := ⟨⟨by decide +kernel, by decide +kernel⟩, List.mem_of_getElem? (i := 187) (by decide +kernel), List.mem_of_getElem? (i := 634) (by decide +kernel), List.mem_of_getElem? (i := 635) (by decide +kernel)⟩
theorem lw_p33 : lw_okq (⟨"TrainBook$WayFinder", "chooseTrains", "(II)V"⟩, 16) := ⟨⟨by decide +kernel, by decide +kernel⟩, List.mem_of_getElem? (i := 187) (by decide +kernel), List.mem_of_getElem? (i := 638) (by decide +kernel), List.mem_of_getElem? (i := 639) (by decide +kernel)⟩
theorem lw_p34 : lw_okq (⟨"TrainBook$WayFinder", "chooseTrain", "(I)V"⟩, 16) := ⟨⟨by decide +kernel, by decide +kernel⟩, List.mem_of_getElem? (i := 187) (by decide +kernel), List.mem_of_getElem? (i := 643) (by decide +kernel), List.mem_of_getElem? (i := 644) (by decide +kernel)⟩
theorem lw_p35 : lw_okq (⟨"TrainBook$WayFinder", "firstBoard", "(LTrainBook$Train;ILTrainBook$Train;I)I"⟩, 16) := ⟨⟨by decide +kernel, by decide +kernel⟩, List.mem_of_getElem? (i := 187) (by decide +kernel), List.mem_of_getElem? (i := 647) (by decide +kernel), List.mem_of_getElem? (i := 648) (by decide +kernel)⟩
theorem lw_p36 : lw_okq (⟨"TrainBook$WayFinder", "chooseStations", "(II)V"⟩, 16) := ⟨⟨by decide +kernel, by decide +kernel⟩, List.mem_of_getElem? (i := 187) (by decide +kernel), List.mem_of_getElem? (i := 652) (by decide +kernel), List.mem_of_getElem? (i := 653) (by decide +kernel)⟩
theorem lw_p37 : lw_okq (⟨"TrainBook$WayFinder", "limitBefore", "(LTrainBook$Train;LTrainBook$Train;I)I"⟩, 16) := ⟨⟨by decide +kernel, by decide +kernel⟩, List.mem_of_getElem? (i := 187) (by decide +kernel), List.mem_of_getElem? (i := 656) (by decide +kernel), List.mem_of_getElem? (i := 657) (by decide +kernel)⟩
theorem lw_p38 : lw_okq (⟨"TrainBook$WayFinder", "leastChange", "(I)I"⟩, 16) := ⟨⟨by decide +kernel, by decide +kernel⟩, List.mem_of_getElem? (i := 187) (by decide +kernel), List.mem_of_getElem? (i := 660) (by decide +kernel), List.mem_of_getElem? (i := 661) (by decide +kernel)⟩
theorem lw_p39 : lw_okq (⟨"TrainBook$WayFinder", "readLeg", "(II)I"⟩, 16) := ⟨⟨by decide +kernel, by decide +kernel⟩, List.mem_of_getElem? (i := 187) (by decide +kernel), List.mem_of_getElem? (i := 668) (by decide +kernel), List.mem_of_getElem? (i := 669) (by decide +kernel)⟩
theorem lw_p40 : lw_okq (⟨"TrainBook$WayFinder", "collectMinutes", "(I)V"⟩, 16) := ⟨⟨by decide +kernel, by decide +kernel⟩, List.mem_of_getElem? (i := 187) (by decide +kernel), List.mem_of_getElem? (i := 680) (by decide +kernel), List.mem_of_getElem? (i := 681) (by decide +kernel)⟩
theorem lw_p41 : lw_okq (⟨"TrainBook$WayFinder", "insertMinute", "(I)V"⟩, 16) := ⟨⟨by decide +kernel, by decide +kernel⟩, List.mem_of_getElem? (i := 187) (by decide +kernel), List.mem_of_getElem? (i := 684) (by decide +kernel), List.mem_of_getElem? (i := 685) (by decide +kernel)⟩
theorem lw_p42 : lw_okq (⟨"TrainBookModel", "isDays", "(I)Z"⟩, 35) := ⟨⟨by decide +kernel, by decide +kernel⟩, List.mem_of_getElem? (i := 696) (by decide +kernel), List.mem_of_getElem? (i := 814) (by decide +kernel), List.mem_of_getElem? (i := 815) (by decide +kernel)⟩
theorem lw_p43 : lw_okq (⟨"TrainBookModel", "isTrain", "(I)Z"⟩, 35) := ⟨⟨by decide +kernel, by decide +kernel⟩, List.mem_of_getElem? (i := 696) (by decide +kernel), List.mem_of_getElem? (i := 822) (by decide +kernel), List.mem_of_getElem? (i := 823) (by decide +kernel)⟩
theorem lw_p44 : lw_okq (⟨"TrainBookModel", "isStation", "(I)Z"⟩, 35) := ⟨⟨by decide +kernel, by decide +kernel⟩, List.mem_of_getElem? (i := 696) (by decide +kernel), List.mem_of_getElem? (i := 826) (by decide +kernel), List.mem_of_getElem? (i := 827) (by decide +kernel)⟩
theorem lw_p45 : lw_okq (⟨"TrainBookModel", "isMinute", "(I)Z"⟩, 35) := ⟨⟨by decide +kernel, by decide +kernel⟩, List.mem_of_getElem? (i := 696) (by decide +kernel), List.mem_of_getElem? (i := 830) (by decide +kernel), List.mem_of_getElem? (i := 831) (by decide +kernel)⟩
theorem lw_p46 : lw_okq (⟨"TrainBookModel", "stopAt", "(II)I"⟩, 35) := ⟨⟨by decide +kernel, by decide +kernel⟩, List.mem_of_getElem? (i := 696) (by decide +kernel), List.mem_of_getElem? (i := 834) (by decide +kernel), List.mem_of_getElem? (i := 835) (by decide +kernel)⟩
theorem lw_p47 : lw_okq (⟨"TrainBookModel", "ones", "(I)I"⟩, 35) := ⟨⟨by decide +kernel, by decide +kernel⟩, List.mem_of_getElem? (i := 696) (by decide +kernel), List.mem_of_getElem? (i := 866) (by decide +kernel), List.mem_of_getElem? (i := 867) (by decide +kernel)⟩
def lw_privs_3 : List (MethodName × Nat) := [(⟨"TrainBook$WayFinder", "canChange", "(LTrainBook$Train;ILTrainBook$Train;I)Z"⟩, 16), (⟨"TrainBook$WayFinder", "chooseTrains", "(II)V"⟩, 16), (⟨"TrainBook$WayFinder", "chooseTrain", "(I)V"⟩, 16), (⟨"TrainBook$WayFinder", "firstBoard", "(LTrainBook$Train;ILTrainBook$Train;I)I"⟩, 16), (⟨"TrainBook$WayFinder", "chooseStations", "(II)V"⟩, 16), (⟨"TrainBook$WayFinder", "limitBefore", "(LTrainBook$Train;LTrainBook$Train;I)I"⟩, 16), (⟨"TrainBook$WayFinder", "leastChange", "(I)I"⟩, 16), (⟨"TrainBook$WayFinder", "readLeg", "(II)I"⟩, 16), (⟨"TrainBook$WayFinder", "collectMinutes", "(I)V"⟩, 16), (⟨"TrainBook$WayFinder", "insertMinute", "(I)V"⟩, 16), (⟨"TrainBookModel", "isDays", "(I)Z"⟩, 35), (⟨"TrainBookModel", "isTrain", "(I)Z"⟩, 35), (⟨"TrainBookModel", "isStation", "(I)Z"⟩, 35), (⟨"TrainBookModel", "isMinute", "(I)Z"⟩, 35), (⟨"TrainBookModel", "stopAt", "(II)I"⟩, 35), (⟨"TrainBookModel", "ones", "(I)I"⟩, 35)]
theorem lw_r3 : ∀ q ∈ lw_privs_3, lw_okq q := List.forall_mem_cons.mpr ⟨lw_p32, List.forall_mem_cons.mpr ⟨lw_p33, List.forall_mem_cons.mpr ⟨lw_p34, List.forall_mem_cons.mpr ⟨lw_p35, List.forall_mem_cons.mpr ⟨lw_p36, List.forall_mem_cons.mpr ⟨lw_p37, List.forall_mem_cons.mpr ⟨lw_p38, List.forall_mem_cons.mpr ⟨lw_p39, List.forall_mem_cons.mpr ⟨lw_p40, List.forall_mem_cons.mpr ⟨lw_p41, List.forall_mem_cons.mpr ⟨lw_p42, List.forall_mem_cons.mpr ⟨lw_p43, List.forall_mem_cons.mpr ⟨lw_p44, List.forall_mem_cons.mpr ⟨lw_p45, List.forall_mem_cons.mpr ⟨lw_p46, List.forall_mem_cons.mpr ⟨lw_p47, fun _ h => absurd h List.not_mem_nil⟩⟩⟩⟩⟩⟩⟩⟩⟩⟩⟩⟩⟩⟩⟩⟩
theorem lw_p48 : lw_okq (⟨"TrainBookModel", "findRows", "()V"⟩, 35) := ⟨⟨by decide +kernel, by decide +kernel⟩, List.mem_of_getElem? (i := 696) (by decide +kernel), List.mem_of_getElem? (i := 874) (by decide +kernel), List.mem_of_getElem? (i := 875) (by decide +kernel)⟩
theorem lw_p49 : lw_okq (⟨"TrainBookModel", "isPlace", "(I)Z"⟩, 35) := ⟨⟨by decide +kernel, by decide +kernel⟩, List.mem_of_getElem? (i := 696) (by decide +kernel), List.mem_of_getElem? (i := 878) (by decide +kernel), List.mem_of_getElem? (i := 879) (by decide +kernel)⟩
theorem lw_p50 : lw_okq (⟨"TrainBookModel", "digit", "(II)I"⟩, 35) := ⟨⟨by decide +kernel, by decide +kernel⟩, List.mem_of_getElem? (i := 696) (by decide +kernel), List.mem_of_getElem? (i := 882) (by decide +kernel), List.mem_of_getElem? (i := 883) (by decide +kernel)⟩
theorem lw_p51 : lw_okq (⟨"TrainBookModel", "behind", "(II)I"⟩, 35) := ⟨⟨by decide +kernel, by decide +kernel⟩, List.mem_of_getElem? (i := 696) (by decide +kernel), List.mem_of_getElem? (i := 886) (by decide +kernel), List.mem_of_getElem? (i := 887) (by decide +kernel)⟩
theorem lw_p52 : lw_okq (⟨"TrainBookModel", "findColumns", "()V"⟩, 35) := ⟨⟨by decide +kernel, by decide +kernel⟩, List.mem_of_getElem? (i := 696) (by decide +kernel), List.mem_of_getElem? (i := 890) (by decide +kernel), List.mem_of_getElem? (i := 891) (by decide +kernel)⟩
theorem lw_p53 : lw_okq (⟨"TrainBookModel", "breachesOf", "([I)I"⟩, 35) := ⟨⟨by decide +kernel, by decide +kernel⟩, List.mem_of_getElem? (i := 696) (by decide +kernel), List.mem_of_getElem? (i := 894) (by decide +kernel), List.mem_of_getElem? (i := 895) (by decide +kernel)⟩
theorem lw_p54 : lw_okq (⟨"TrainBookModel", "isBreach", "(II)Z"⟩, 35) := ⟨⟨by decide +kernel, by decide +kernel⟩, List.mem_of_getElem? (i := 696) (by decide +kernel), List.mem_of_getElem? (i := 898) (by decide +kernel), List.mem_of_getElem? (i := 899) (by decide +kernel)⟩
theorem lw_p55 : lw_okq (⟨"TrainBookModel", "leaves", "(II)I"⟩, 35) := ⟨⟨by decide +kernel, by decide +kernel⟩, List.mem_of_getElem? (i := 696) (by decide +kernel), List.mem_of_getElem? (i := 902) (by decide +kernel), List.mem_of_getElem? (i := 903) (by decide +kernel)⟩
theorem lw_p56 : lw_okq (⟨"TrainBookModel", "goesOn", "()Z"⟩, 35) := ⟨⟨by decide +kernel, by decide +kernel⟩, List.mem_of_getElem? (i := 696) (by decide +kernel), List.mem_of_getElem? (i := 906) (by decide +kernel), List.mem_of_getElem? (i := 907) (by decide +kernel)⟩
theorem lw_p57 : lw_okq (⟨"TrainBookModel", "swap", "(II)V"⟩, 35) := ⟨⟨by decide +kernel, by decide +kernel⟩, List.mem_of_getElem? (i := 696) (by decide +kernel), List.mem_of_getElem? (i := 910) (by decide +kernel), List.mem_of_getElem? (i := 911) (by decide +kernel)⟩
theorem lw_p58 : lw_okq (⟨"TrainBookModel", "findLanes", "()V"⟩, 35) := ⟨⟨by decide +kernel, by decide +kernel⟩, List.mem_of_getElem? (i := 696) (by decide +kernel), List.mem_of_getElem? (i := 914) (by decide +kernel), List.mem_of_getElem? (i := 915) (by decide +kernel)⟩
theorem lw_p59 : lw_okq (⟨"TrainBookModel", "first", "(I)I"⟩, 35) := ⟨⟨by decide +kernel, by decide +kernel⟩, List.mem_of_getElem? (i := 696) (by decide +kernel), List.mem_of_getElem? (i := 918) (by decide +kernel), List.mem_of_getElem? (i := 919) (by decide +kernel)⟩
theorem lw_p60 : lw_okq (⟨"TrainBookModel", "isFree", "(II)Z"⟩, 35) := ⟨⟨by decide +kernel, by decide +kernel⟩, List.mem_of_getElem? (i := 696) (by decide +kernel), List.mem_of_getElem? (i := 922) (by decide +kernel), List.mem_of_getElem? (i := 923) (by decide +kernel)⟩
theorem lw_p61 : lw_okq (⟨"TrainBookModel", "last", "(I)I"⟩, 35) := ⟨⟨by decide +kernel, by decide +kernel⟩, List.mem_of_getElem? (i := 696) (by decide +kernel), List.mem_of_getElem? (i := 926) (by decide +kernel), List.mem_of_getElem? (i := 927) (by decide +kernel)⟩
theorem lw_p62 : lw_okq (⟨"TrainBookModel", "isColumn", "(I)Z"⟩, 35) := ⟨⟨by decide +kernel, by decide +kernel⟩, List.mem_of_getElem? (i := 696) (by decide +kernel), List.mem_of_getElem? (i := 938) (by decide +kernel), List.mem_of_getElem? (i := 939) (by decide +kernel)⟩
theorem lw_p63 : lw_okq (⟨"TrainBookModel", "finds", "(IIII)Z"⟩, 35) := ⟨⟨by decide +kernel, by decide +kernel⟩, List.mem_of_getElem? (i := 696) (by decide +kernel), List.mem_of_getElem? (i := 966) (by decide +kernel), List.mem_of_getElem? (i := 967) (by decide +kernel)⟩
def lw_privs_4 : List (MethodName × Nat) := [(⟨"TrainBookModel", "findRows", "()V"⟩, 35), (⟨"TrainBookModel", "isPlace", "(I)Z"⟩, 35), (⟨"TrainBookModel", "digit", "(II)I"⟩, 35), (⟨"TrainBookModel", "behind", "(II)I"⟩, 35), (⟨"TrainBookModel", "findColumns", "()V"⟩, 35), (⟨"TrainBookModel", "breachesOf", "([I)I"⟩, 35), (⟨"TrainBookModel", "isBreach", "(II)Z"⟩, 35), (⟨"TrainBookModel", "leaves", "(II)I"⟩, 35), (⟨"TrainBookModel", "goesOn", "()Z"⟩, 35), (⟨"TrainBookModel", "swap", "(II)V"⟩, 35), (⟨"TrainBookModel", "findLanes", "()V"⟩, 35), (⟨"TrainBookModel", "first", "(I)I"⟩, 35), (⟨"TrainBookModel", "isFree", "(II)Z"⟩, 35), (⟨"TrainBookModel", "last", "(I)I"⟩, 35), (⟨"TrainBookModel", "isColumn", "(I)Z"⟩, 35), (⟨"TrainBookModel", "finds", "(IIII)Z"⟩, 35)]
theorem lw_r4 : ∀ q ∈ lw_privs_4, lw_okq q := List.forall_mem_cons.mpr ⟨lw_p48, List.forall_mem_cons.mpr ⟨lw_p49, List.forall_mem_cons.mpr ⟨lw_p50, List.forall_mem_cons.mpr ⟨lw_p51, List.forall_mem_cons.mpr ⟨lw_p52, List.forall_mem_cons.mpr ⟨lw_p53, List.forall_mem_cons.mpr ⟨lw_p54, List.forall_mem_cons.mpr ⟨lw_p55, List.forall_mem_cons.mpr ⟨lw_p56, List.forall_mem_cons.mpr ⟨lw_p57, List.forall_mem_cons.mpr ⟨lw_p58, List.forall_mem_cons.mpr ⟨lw_p59, List.forall_mem_cons.mpr ⟨lw_p60, List.forall_mem_cons.mpr ⟨lw_p61, List.forall_mem_cons.mpr ⟨lw_p62, List.forall_mem_cons.mpr ⟨lw_p63, fun _ h => absurd h List.not_mem_nil⟩⟩⟩⟩⟩⟩⟩⟩⟩⟩⟩⟩⟩⟩⟩⟩
theorem lw_p64 : lw_okq (⟨"TrainBookModel", "soonest", "(IIII)I"⟩, 35) := ⟨⟨by decide +kernel, by decide +kernel⟩, List.mem_of_getElem? (i := 696) (by decide +kernel), List.mem_of_getElem? (i := 970) (by decide +kernel), List.mem_of_getElem? (i := 971) (by decide +kernel)⟩
theorem lw_p65 : lw_okq (⟨"TrainBookModel", "runs", "(II)Z"⟩, 35) := ⟨⟨by decide +kernel, by decide +kernel⟩, List.mem_of_getElem? (i := 696) (by decide +kernel), List.mem_of_getElem? (i := 974) (by decide +kernel), List.mem_of_getElem? (i := 975) (by decide +kernel)⟩
theorem lw_p66 : lw_okq (⟨"TrainBookModel", "isBoarded", "(IIII)Z"⟩, 35) := ⟨⟨by decide +kernel, by decide +kernel⟩, List.mem_of_getElem? (i := 696) (by decide +kernel), List.mem_of_getElem? (i := 978) (by decide +kernel), List.mem_of_getElem? (i := 979) (by decide +kernel)⟩
theorem lw_p67 : lw_okq (⟨"TrainBookModel", "canChange", "(II)Z"⟩, 35) := ⟨⟨by decide +kernel, by decide +kernel⟩, List.mem_of_getElem? (i := 696) (by decide +kernel), List.mem_of_getElem? (i := 982) (by decide +kernel), List.mem_of_getElem? (i := 983) (by decide +kernel)⟩
theorem lw_p68 : lw_okq (⟨"TrainBookModel", "findRest", "(II)V"⟩, 35) := ⟨⟨by decide +kernel, by decide +kernel⟩, List.mem_of_getElem? (i := 696) (by decide +kernel), List.mem_of_getElem? (i := 986) (by decide +kernel), List.mem_of_getElem? (i := 987) (by decide +kernel)⟩
theorem lw_p69 : lw_okq (⟨"TrainBookModel", "canGoOn", "(III)Z"⟩, 35) := ⟨⟨by decide +kernel, by decide +kernel⟩, List.mem_of_getElem? (i := 696) (by decide +kernel), List.mem_of_getElem? (i := 990) (by decide +kernel), List.mem_of_getElem? (i := 991) (by decide +kernel)⟩
theorem lw_p70 : lw_okq (⟨"TrainBookModel", "firstTrain", "(ZIIII)I"⟩, 35) := ⟨⟨by decide +kernel, by decide +kernel⟩, List.mem_of_getElem? (i := 696) (by decide +kernel), List.mem_of_getElem? (i := 994) (by decide +kernel), List.mem_of_getElem? (i := 995) (by decide +kernel)⟩
theorem lw_p71 : lw_okq (⟨"TrainBookModel", "leavesAt", "(IZIII)Z"⟩, 35) := ⟨⟨by decide +kernel, by decide +kernel⟩, List.mem_of_getElem? (i := 696) (by decide +kernel), List.mem_of_getElem? (i := 998) (by decide +kernel), List.mem_of_getElem? (i := 999) (by decide +kernel)⟩
theorem lw_p72 : lw_okq (⟨"TrainBookModel", "canBoard", "(IZII)Z"⟩, 35) := ⟨⟨by decide +kernel, by decide +kernel⟩, List.mem_of_getElem? (i := 696) (by decide +kernel), List.mem_of_getElem? (i := 1002) (by decide +kernel), List.mem_of_getElem? (i := 1003) (by decide +kernel)⟩
theorem lw_p73 : lw_okq (⟨"TrainBookModel", "boardOf", "(IIIII)I"⟩, 35) := ⟨⟨by decide +kernel, by decide +kernel⟩, List.mem_of_getElem? (i := 696) (by decide +kernel), List.mem_of_getElem? (i := 1006) (by decide +kernel), List.mem_of_getElem? (i := 1007) (by decide +kernel)⟩
theorem lw_p74 : lw_okq (⟨"TrainBookModel", "restGoes", "(III)Z"⟩, 35) := ⟨⟨by decide +kernel, by decide +kernel⟩, List.mem_of_getElem? (i := 696) (by decide +kernel), List.mem_of_getElem? (i := 1010) (by decide +kernel), List.mem_of_getElem? (i := 1011) (by decide +kernel)⟩
theorem lw_p75 : lw_okq (⟨"TrainBookModel", "canDepart", "(III)Z"⟩, 35) := ⟨⟨by decide +kernel, by decide +kernel⟩, List.mem_of_getElem? (i := 696) (by decide +kernel), List.mem_of_getElem? (i := 1018) (by decide +kernel), List.mem_of_getElem? (i := 1019) (by decide +kernel)⟩
theorem lw_p76 : lw_okq (⟨"TrainBookModel", "findDepartures", "(III)V"⟩, 35) := ⟨⟨by decide +kernel, by decide +kernel⟩, List.mem_of_getElem? (i := 696) (by decide +kernel), List.mem_of_getElem? (i := 1022) (by decide +kernel), List.mem_of_getElem? (i := 1023) (by decide +kernel)⟩
theorem lw_p77 : lw_okq (⟨"TrainBookModel", "isGone", "(III)Z"⟩, 35) := ⟨⟨by decide +kernel, by decide +kernel⟩, List.mem_of_getElem? (i := 696) (by decide +kernel), List.mem_of_getElem? (i := 1026) (by decide +kernel), List.mem_of_getElem? (i := 1027) (by decide +kernel)⟩
def lw_privs_5 : List (MethodName × Nat) := [(⟨"TrainBookModel", "soonest", "(IIII)I"⟩, 35), (⟨"TrainBookModel", "runs", "(II)Z"⟩, 35), (⟨"TrainBookModel", "isBoarded", "(IIII)Z"⟩, 35), (⟨"TrainBookModel", "canChange", "(II)Z"⟩, 35), (⟨"TrainBookModel", "findRest", "(II)V"⟩, 35), (⟨"TrainBookModel", "canGoOn", "(III)Z"⟩, 35), (⟨"TrainBookModel", "firstTrain", "(ZIIII)I"⟩, 35), (⟨"TrainBookModel", "leavesAt", "(IZIII)Z"⟩, 35), (⟨"TrainBookModel", "canBoard", "(IZII)Z"⟩, 35), (⟨"TrainBookModel", "boardOf", "(IIIII)I"⟩, 35), (⟨"TrainBookModel", "restGoes", "(III)Z"⟩, 35), (⟨"TrainBookModel", "canDepart", "(III)Z"⟩, 35), (⟨"TrainBookModel", "findDepartures", "(III)V"⟩, 35), (⟨"TrainBookModel", "isGone", "(III)Z"⟩, 35)]
theorem lw_r5 : ∀ q ∈ lw_privs_5, lw_okq q := List.forall_mem_cons.mpr ⟨lw_p64, List.forall_mem_cons.mpr ⟨lw_p65, List.forall_mem_cons.mpr ⟨lw_p66, List.forall_mem_cons.mpr ⟨lw_p67, List.forall_mem_cons.mpr ⟨lw_p68, List.forall_mem_cons.mpr ⟨lw_p69, List.forall_mem_cons.mpr ⟨lw_p70, List.forall_mem_cons.mpr ⟨lw_p71, List.forall_mem_cons.mpr ⟨lw_p72, List.forall_mem_cons.mpr ⟨lw_p73, List.forall_mem_cons.mpr ⟨lw_p74, List.forall_mem_cons.mpr ⟨lw_p75, List.forall_mem_cons.mpr ⟨lw_p76, List.forall_mem_cons.mpr ⟨lw_p77, fun _ h => absurd h List.not_mem_nil⟩⟩⟩⟩⟩⟩⟩⟩⟩⟩⟩⟩⟩⟩
def lw_privs : List (MethodName × Nat) := lw_privs_1 ++ (lw_privs_2 ++ (lw_privs_3 ++ (lw_privs_4 ++ (lw_privs_5))))
def lw_tbl : List Cond := k2_sels lw_privs ++ tables_1
theorem lw_privs_ok : ∀ q ∈ lw_privs, lw_okq q := by
  show ∀ q ∈ lw_privs_1 ++ (lw_privs_2 ++ (lw_privs_3 ++ (lw_privs_4 ++ (lw_privs_5)))), lw_okq q
  exact List.forall_mem_append.mpr ⟨lw_r1, List.forall_mem_append.mpr ⟨lw_r2, List.forall_mem_append.mpr ⟨lw_r3, List.forall_mem_append.mpr ⟨lw_r4, lw_r5⟩⟩⟩⟩
end
section
def RX0 : String := "TrainBook$ColumnOrder"
def TX0 : u_T := fun k => match k with
  | 0 => ("TrainBook$ColumnOrder", "order", "[I", true)
  | 1 => ("TrainBook$ColumnOrder", "breachCount", "I", false)
  | 2 => ("TrainBook$ColumnOrder", "knotCount", "I", false)
  | 3 => ("TrainBook$ColumnOrder", "members", "I", false)
  | 4 => ("TrainBook$ColumnOrder", "breached", "[I", true)
  | _ => ("TrainBook$ColumnOrder", "fewest", "[I", true)
def tyX0 : Nat → FieldType := fun k => match k with
  | 0 => .array .int
  | 1 => .int
  | 2 => .int
  | 3 => .int
  | 4 => .array .int
  | _ => .array .int
abbrev wsX00 : List Cond := u_ws RX0 TX0 6
theorem nmX0 : ∀ a, a < 6 → ∀ b, b < 6 → a ≠ b → (TX0 a).2.1 ≠ (TX0 b).2.1 := by decide +kernel
theorem tyX0_ok : ∀ k, k < 6 → parseFieldDescriptor (TX0 k).2.2.1 = some (tyX0 k) := by decide +kernel
abbrev cX0_init : ByteArray := prog_2_method_1_code
def yX0_init : MethodName := ⟨RX0, "<init>", "()V"⟩
abbrev cX0_arrange : ByteArray := prog_2_method_2_code
def yX0_arrange : MethodName := ⟨RX0, "arrange", "([LTrainBook$Train;I)V"⟩
abbrev cX0_wouldBreach : ByteArray := prog_2_method_3_code
def yX0_wouldBreach : MethodName := ⟨RX0, "wouldBreach", "(II)Z"⟩
abbrev cX0_breachedBy : ByteArray := prog_2_method_4_code
def yX0_breachedBy : MethodName := ⟨RX0, "breachedBy", "([LTrainBook$Train;I)I"⟩
abbrev cX0_fillFewest : ByteArray := prog_2_method_5_code
def yX0_fillFewest : MethodName := ⟨RX0, "fillFewest", "()V"⟩
abbrev cX0_fewestWith : ByteArray := prog_2_method_6_code
def yX0_fewestWith : MethodName := ⟨RX0, "fewestWith", "(II)I"⟩
abbrev cX0_setOrder : ByteArray := prog_2_method_7_code
def yX0_setOrder : MethodName := ⟨RX0, "setOrder", "()V"⟩
abbrev cX0_firstBehind : ByteArray := prog_2_method_8_code
def yX0_firstBehind : MethodName := ⟨RX0, "firstBehind", "(I)I"⟩
def RX1 : String := "TrainBook$LanePlan"
def TX1 : u_T := fun k => match k with
  | 0 => ("TrainBook$LanePlan", "count", "I", false)
  | 1 => ("TrainBook$LanePlan", "laneOf", "[I", true)
  | _ => ("TrainBook$LanePlan", "lastRow", "[I", true)
def tyX1 : Nat → FieldType := fun k => match k with
  | 0 => .int
  | 1 => .array .int
  | _ => .array .int
abbrev wsX10 : List Cond := u_ws RX1 TX1 3
theorem nmX1 : ∀ a, a < 3 → ∀ b, b < 3 → a ≠ b → (TX1 a).2.1 ≠ (TX1 b).2.1 := by decide +kernel
theorem tyX1_ok : ∀ k, k < 3 → parseFieldDescriptor (TX1 k).2.2.1 = some (tyX1 k) := by decide +kernel
abbrev cX1_init : ByteArray := prog_3_method_1_code
def yX1_init : MethodName := ⟨RX1, "<init>", "()V"⟩
abbrev cX1_clear : ByteArray := prog_3_method_2_code
def yX1_clear : MethodName := ⟨RX1, "clear", "()V"⟩
abbrev cX1_give : ByteArray := prog_3_method_3_code
def yX1_give : MethodName := ⟨RX1, "give", "(III)V"⟩
def RX2 : String := "TrainBook$RowSearch"
def TX2 : u_T := fun k => match k with
  | 0 => ("TrainBook$RowSearch", "length", "I", false)
  | 1 => ("TrainBook$RowSearch", "path", "[I", true)
  | 2 => ("TrainBook$RowSearch", "members", "I", false)
  | 3 => ("TrainBook$RowSearch", "end", "I", false)
  | 4 => ("TrainBook$RowSearch", "stamp", "I", false)
  | 5 => ("TrainBook$RowSearch", "next", "[I", true)
  | 6 => ("TrainBook$RowSearch", "ahead", "[I", true)
  | 7 => ("TrainBook$RowSearch", "pairNeed", "[I", true)
  | _ => ("TrainBook$RowSearch", "known", "[I", false)
def tyX2 : Nat → FieldType := fun k => match k with
  | 0 => .int
  | 1 => .array .int
  | 2 => .int
  | 3 => .int
  | 4 => .int
  | 5 => .array .int
  | 6 => .array .int
  | 7 => .array .int
  | _ => .array .int
abbrev wsX20 : List Cond := u_ws RX2 TX2 9
theorem nmX2 : ∀ a, a < 9 → ∀ b, b < 9 → a ≠ b → (TX2 a).2.1 ≠ (TX2 b).2.1 := by decide +kernel
theorem tyX2_ok : ∀ k, k < 9 → parseFieldDescriptor (TX2 k).2.2.1 = some (tyX2 k) := by decide +kernel
abbrev cX2_init : ByteArray := prog_4_method_1_code
def yX2_init : MethodName := ⟨RX2, "<init>", "()V"⟩
abbrev cX2_search : ByteArray := prog_4_method_2_code
def yX2_search : MethodName := ⟨RX2, "search", "([LTrainBook$Train;I)V"⟩
abbrev cX2_reach : ByteArray := prog_4_method_3_code
def yX2_reach : MethodName := ⟨RX2, "reach", "(LTrainBook$RowSearch;II)Z"⟩
abbrev cX2_prepare : ByteArray := prog_4_method_4_code
def yX2_prepare : MethodName := ⟨RX2, "prepare", "([LTrainBook$Train;I)V"⟩
abbrev cX2_readStops : ByteArray := prog_4_method_5_code
def yX2_readStops : MethodName := ⟨RX2, "readStops", "(LTrainBook$Train;I)V"⟩
abbrev cX2_fillPair : ByteArray := prog_4_method_6_code
def yX2_fillPair : MethodName := ⟨RX2, "fillPair", "(ILTrainBook$Train;LTrainBook$Train;)V"⟩
abbrev cX2_openKnown : ByteArray := prog_4_method_7_code
def yX2_openKnown : MethodName := ⟨RX2, "openKnown", "(I)V"⟩
abbrev cX2_needOf : ByteArray := prog_4_method_8_code
def yX2_needOf : MethodName := ⟨RX2, "needOf", "(I)I"⟩
abbrev cX2_keep : ByteArray := prog_4_method_9_code
def yX2_keep : MethodName := ⟨RX2, "keep", "(II)V"⟩
abbrev cX2_placeOf : ByteArray := prog_4_method_10_code
def yX2_placeOf : MethodName := ⟨RX2, "placeOf", "(II)I"⟩
abbrev cX2_leastNeed : ByteArray := prog_4_method_11_code
def yX2_leastNeed : MethodName := ⟨RX2, "leastNeed", "(I)I"⟩
abbrev cX2_pairNeedAt : ByteArray := prog_4_method_12_code
def yX2_pairNeedAt : MethodName := ⟨RX2, "pairNeedAt", "(III)I"⟩
abbrev cX2_nextStations : ByteArray := prog_4_method_13_code
def yX2_nextStations : MethodName := ⟨RX2, "nextStations", "(I)I"⟩
abbrev cX2_passed : ByteArray := prog_4_method_14_code
def yX2_passed : MethodName := ⟨RX2, "passed", "(II)I"⟩
def RX3 : String := "TrainBook$SignBook"
def TX3 : u_T := fun k => match k with
  | _ => ("TrainBook$SignBook", "told", "[I", true)
def tyX3 : Nat → FieldType := fun k => match k with
  | _ => .array .int
abbrev wsX30 : List Cond := u_ws RX3 TX3 1
theorem nmX3 : ∀ a, a < 1 → ∀ b, b < 1 → a ≠ b → (TX3 a).2.1 ≠ (TX3 b).2.1 := by decide +kernel
theorem tyX3_ok : ∀ k, k < 1 → parseFieldDescriptor (TX3 k).2.2.1 = some (tyX3 k) := by decide +kernel
abbrev cX3_init : ByteArray := prog_5_method_1_code
def yX3_init : MethodName := ⟨RX3, "<init>", "()V"⟩
abbrev cX3_tell : ByteArray := prog_5_method_2_code
def yX3_tell : MethodName := ⟨RX3, "tell", "(II)V"⟩
abbrev cX3_fewestFor : ByteArray := prog_5_method_3_code
def yX3_fewestFor : MethodName := ⟨RX3, "fewestFor", "(I)I"⟩
abbrev cX3_unionOf : ByteArray := prog_5_method_4_code
def yX3_unionOf : MethodName := ⟨RX3, "unionOf", "(I)I"⟩
abbrev cX3_lesser : ByteArray := prog_5_method_5_code
def yX3_lesser : MethodName := ⟨RX3, "lesser", "(II)I"⟩
def RX4 : String := "TrainBook$Table"
def TX4 : u_T := fun k => match k with
  | 0 => ("TrainBook$Table", "member", "[LTrainBook$Train;", true)
  | 1 => ("TrainBook$Table", "number", "[I", true)
  | 2 => ("TrainBook$Table", "stopRow", "[I", true)
  | 3 => ("TrainBook$Table", "rows", "LTrainBook$RowSearch;", true)
  | 4 => ("TrainBook$Table", "columns", "LTrainBook$ColumnOrder;", true)
  | 5 => ("TrainBook$Table", "lanePlan", "LTrainBook$LanePlan;", true)
  | _ => ("TrainBook$Table", "members", "I", false)
def tyX4 : Nat → FieldType := fun k => match k with
  | 0 => .array (.object "TrainBook$Train")
  | 1 => .array .int
  | 2 => .array .int
  | 3 => .object "TrainBook$RowSearch"
  | 4 => .object "TrainBook$ColumnOrder"
  | 5 => .object "TrainBook$LanePlan"
  | _ => .int
abbrev wsX40 : List Cond := u_ws RX4 TX4 7
theorem nmX4 : ∀ a, a < 7 → ∀ b, b < 7 → a ≠ b → (TX4 a).2.1 ≠ (TX4 b).2.1 := by decide +kernel
theorem tyX4_ok : ∀ k, k < 7 → parseFieldDescriptor (TX4 k).2.2.1 = some (tyX4 k) := by decide +kernel
abbrev cX4_init : ByteArray := prog_6_method_1_code
def yX4_init : MethodName := ⟨RX4, "<init>", "()V"⟩
abbrev cX4_make : ByteArray := prog_6_method_2_code
def yX4_make : MethodName := ⟨RX4, "make", "([LTrainBook$Train;I)V"⟩
abbrev cX4_isMade : ByteArray := prog_6_method_3_code
def yX4_isMade : MethodName := ⟨RX4, "isMade", "()Z"⟩
abbrev cX4_rowCount : ByteArray := prog_6_method_4_code
def yX4_rowCount : MethodName := ⟨RX4, "rowCount", "()I"⟩
abbrev cX4_columnCount : ByteArray := prog_6_method_5_code
def yX4_columnCount : MethodName := ⟨RX4, "columnCount", "()I"⟩
abbrev cX4_hasRow : ByteArray := prog_6_method_6_code
def yX4_hasRow : MethodName := ⟨RX4, "hasRow", "(I)Z"⟩
abbrev cX4_hasColumn : ByteArray := prog_6_method_7_code
def yX4_hasColumn : MethodName := ⟨RX4, "hasColumn", "(I)Z"⟩
abbrev cX4_stationOf : ByteArray := prog_6_method_8_code
def yX4_stationOf : MethodName := ⟨RX4, "stationOf", "(I)I"⟩
abbrev cX4_trainOf : ByteArray := prog_6_method_9_code
def yX4_trainOf : MethodName := ⟨RX4, "trainOf", "(I)I"⟩
abbrev cX4_read : ByteArray := prog_6_method_10_code
def yX4_read : MethodName := ⟨RX4, "read", "(IIZ)I"⟩
abbrev cX4_countBreaches : ByteArray := prog_6_method_11_code
def yX4_countBreaches : MethodName := ⟨RX4, "countBreaches", "()I"⟩
abbrev cX4_countKnots : ByteArray := prog_6_method_12_code
def yX4_countKnots : MethodName := ⟨RX4, "countKnots", "()I"⟩
abbrev cX4_isBreach : ByteArray := prog_6_method_13_code
def yX4_isBreach : MethodName := ⟨RX4, "isBreach", "(II)Z"⟩
abbrev cX4_laneCount : ByteArray := prog_6_method_14_code
def yX4_laneCount : MethodName := ⟨RX4, "laneCount", "()I"⟩
abbrev cX4_laneOf : ByteArray := prog_6_method_15_code
def yX4_laneOf : MethodName := ⟨RX4, "laneOf", "(I)I"⟩
abbrev cX4_takeMembers : ByteArray := prog_6_method_16_code
def yX4_takeMembers : MethodName := ⟨RX4, "takeMembers", "([LTrainBook$Train;I)V"⟩
abbrev cX4_placeStops : ByteArray := prog_6_method_17_code
def yX4_placeStops : MethodName := ⟨RX4, "placeStops", "(I)V"⟩
abbrev cX4_firstRow : ByteArray := prog_6_method_18_code
def yX4_firstRow : MethodName := ⟨RX4, "firstRow", "(I)I"⟩
abbrev cX4_lastRow : ByteArray := prog_6_method_19_code
def yX4_lastRow : MethodName := ⟨RX4, "lastRow", "(I)I"⟩
abbrev cX4_planLanes : ByteArray := prog_6_method_20_code
def yX4_planLanes : MethodName := ⟨RX4, "planLanes", "()V"⟩
def RX5 : String := "TrainBook$Train"
def TX5 : u_T := fun k => match k with
  | 0 => ("TrainBook$Train", "onDays", "I", false)
  | 1 => ("TrainBook$Train", "stops", "I", false)
  | 2 => ("TrainBook$Train", "station", "[I", true)
  | 3 => ("TrainBook$Train", "comes", "[I", true)
  | 4 => ("TrainBook$Train", "goes", "[I", true)
  | _ => ("TrainBook$Train", "stopAt", "[I", true)
def tyX5 : Nat → FieldType := fun k => match k with
  | 0 => .int
  | 1 => .int
  | 2 => .array .int
  | 3 => .array .int
  | 4 => .array .int
  | _ => .array .int
abbrev wsX50 : List Cond := u_ws RX5 TX5 6
theorem nmX5 : ∀ a, a < 6 → ∀ b, b < 6 → a ≠ b → (TX5 a).2.1 ≠ (TX5 b).2.1 := by decide +kernel
theorem tyX5_ok : ∀ k, k < 6 → parseFieldDescriptor (TX5 k).2.2.1 = some (tyX5 k) := by decide +kernel
abbrev cX5_init : ByteArray := prog_7_method_1_code
def yX5_init : MethodName := ⟨RX5, "<init>", "()V"⟩
abbrev cX5_takes : ByteArray := prog_7_method_2_code
def yX5_takes : MethodName := ⟨RX5, "takes", "(III)Z"⟩
abbrev cX5_add : ByteArray := prog_7_method_3_code
def yX5_add : MethodName := ⟨RX5, "add", "(III)V"⟩
abbrev cX5_dropLast : ByteArray := prog_7_method_4_code
def yX5_dropLast : MethodName := ⟨RX5, "dropLast", "()V"⟩
abbrev cX5_staysInDay : ByteArray := prog_7_method_5_code
def yX5_staysInDay : MethodName := ⟨RX5, "staysInDay", "(I)Z"⟩
abbrev cX5_move : ByteArray := prog_7_method_6_code
def yX5_move : MethodName := ⟨RX5, "move", "(I)V"⟩
abbrev cX5_runsOn : ByteArray := prog_7_method_7_code
def yX5_runsOn : MethodName := ⟨RX5, "runsOn", "(I)Z"⟩
abbrev cX5_read : ByteArray := prog_7_method_8_code
def yX5_read : MethodName := ⟨RX5, "read", "(I)I"⟩
abbrev cX5_leaves : ByteArray := prog_7_method_9_code
def yX5_leaves : MethodName := ⟨RX5, "leaves", "(I)I"⟩
abbrev cX5_isAheadSomewhere : ByteArray := prog_7_method_10_code
def yX5_isAheadSomewhere : MethodName := ⟨RX5, "isAheadSomewhere", "(LTrainBook$Train;)Z"⟩
abbrev cX5_copy : ByteArray := prog_7_method_11_code
def yX5_copy : MethodName := ⟨RX5, "copy", "(LTrainBook$Train;)V"⟩
def RX6 : String := "TrainBook$WayFinder"
def TX6 : u_T := fun k => match k with
  | 0 => ("TrainBook$WayFinder", "trains", "[LTrainBook$Train;", false)
  | 1 => ("TrainBook$WayFinder", "count", "I", false)
  | 2 => ("TrainBook$WayFinder", "weekday", "I", false)
  | 3 => ("TrainBook$WayFinder", "wait", "I", false)
  | 4 => ("TrainBook$WayFinder", "arrives", "[I", true)
  | 5 => ("TrainBook$WayFinder", "lastBoard", "[I", true)
  | 6 => ("TrainBook$WayFinder", "soonest", "I", false)
  | 7 => ("TrainBook$WayFinder", "legs", "I", false)
  | 8 => ("TrainBook$WayFinder", "leg", "[I", true)
  | 9 => ("TrainBook$WayFinder", "legLimit", "[I", true)
  | 10 => ("TrainBook$WayFinder", "boards", "[I", true)
  | 11 => ("TrainBook$WayFinder", "leaves", "[I", true)
  | 12 => ("TrainBook$WayFinder", "minutes", "[I", true)
  | 13 => ("TrainBook$WayFinder", "minuteCount", "I", false)
  | 14 => ("TrainBook$WayFinder", "found", "[I", true)
  | _ => ("TrainBook$WayFinder", "foundCount", "I", false)
def tyX6 : Nat → FieldType := fun k => match k with
  | 0 => .array (.object "TrainBook$Train")
  | 1 => .int
  | 2 => .int
  | 3 => .int
  | 4 => .array .int
  | 5 => .array .int
  | 6 => .int
  | 7 => .int
  | 8 => .array .int
  | 9 => .array .int
  | 10 => .array .int
  | 11 => .array .int
  | 12 => .array .int
  | 13 => .int
  | 14 => .array .int
  | _ => .int
abbrev wsX60 : List Cond := u_ws RX6 TX6 16
theorem nmX6 : ∀ a, a < 16 → ∀ b, b < 16 → a ≠ b → (TX6 a).2.1 ≠ (TX6 b).2.1 := by decide +kernel
theorem tyX6_ok : ∀ k, k < 16 → parseFieldDescriptor (TX6 k).2.2.1 = some (tyX6 k) := by decide +kernel
abbrev cX6_init : ByteArray := prog_8_method_1_code
def yX6_init : MethodName := ⟨RX6, "<init>", "()V"⟩
abbrev cX6_setOut : ByteArray := prog_8_method_2_code
def yX6_setOut : MethodName := ⟨RX6, "setOut", "([LTrainBook$Train;III)V"⟩
abbrev cX6_findBest : ByteArray := prog_8_method_3_code
def yX6_findBest : MethodName := ⟨RX6, "findBest", "(III)Z"⟩
abbrev cX6_read : ByteArray := prog_8_method_4_code
def yX6_read : MethodName := ⟨RX6, "read", "(I)I"⟩
abbrev cX6_findDepartures : ByteArray := prog_8_method_5_code
def yX6_findDepartures : MethodName := ⟨RX6, "findDepartures", "(II)I"⟩
abbrev cX6_departureAt : ByteArray := prog_8_method_6_code
def yX6_departureAt : MethodName := ⟨RX6, "departureAt", "(I)I"⟩
abbrev cX6_readLeg : ByteArray := prog_8_method_7_code
def yX6_readLeg : MethodName := ⟨RX6, "readLeg", "(II)I"⟩
abbrev cX6_soonestAt : ByteArray := prog_8_method_8_code
def yX6_soonestAt : MethodName := ⟨RX6, "soonestAt", "(III)I"⟩
abbrev cX6_ride : ByteArray := prog_8_method_9_code
def yX6_ride : MethodName := ⟨RX6, "ride", "(LTrainBook$Train;)Z"⟩
abbrev cX6_countLegs : ByteArray := prog_8_method_10_code
def yX6_countLegs : MethodName := ⟨RX6, "countLegs", "(III)V"⟩
abbrev cX6_lastBoardTo : ByteArray := prog_8_method_11_code
def yX6_lastBoardTo : MethodName := ⟨RX6, "lastBoardTo", "(LTrainBook$Train;I)I"⟩
abbrev cX6_lastBoardBefore : ByteArray := prog_8_method_12_code
def yX6_lastBoardBefore : MethodName := ⟨RX6, "lastBoardBefore", "(LTrainBook$Train;I)I"⟩
abbrev cX6_canChange : ByteArray := prog_8_method_13_code
def yX6_canChange : MethodName := ⟨RX6, "canChange", "(LTrainBook$Train;ILTrainBook$Train;I)Z"⟩
abbrev cX6_firstTrain : ByteArray := prog_8_method_14_code
def yX6_firstTrain : MethodName := ⟨RX6, "firstTrain", "(II)I"⟩
abbrev cX6_chooseTrains : ByteArray := prog_8_method_15_code
def yX6_chooseTrains : MethodName := ⟨RX6, "chooseTrains", "(II)V"⟩
abbrev cX6_chooseTrain : ByteArray := prog_8_method_16_code
def yX6_chooseTrain : MethodName := ⟨RX6, "chooseTrain", "(I)V"⟩
abbrev cX6_firstBoard : ByteArray := prog_8_method_17_code
def yX6_firstBoard : MethodName := ⟨RX6, "firstBoard", "(LTrainBook$Train;ILTrainBook$Train;I)I"⟩
abbrev cX6_chooseStations : ByteArray := prog_8_method_18_code
def yX6_chooseStations : MethodName := ⟨RX6, "chooseStations", "(II)V"⟩
abbrev cX6_limitBefore : ByteArray := prog_8_method_19_code
def yX6_limitBefore : MethodName := ⟨RX6, "limitBefore", "(LTrainBook$Train;LTrainBook$Train;I)I"⟩
abbrev cX6_leastChange : ByteArray := prog_8_method_20_code
def yX6_leastChange : MethodName := ⟨RX6, "leastChange", "(I)I"⟩
abbrev cX6_collectMinutes : ByteArray := prog_8_method_21_code
def yX6_collectMinutes : MethodName := ⟨RX6, "collectMinutes", "(I)V"⟩
abbrev cX6_insertMinute : ByteArray := prog_8_method_22_code
def yX6_insertMinute : MethodName := ⟨RX6, "insertMinute", "(I)V"⟩
def RX7 : String := "TrainBook"
def TX7 : u_T := fun k => match k with
  | 0 => ("TrainBook", "trains", "[LTrainBook$Train;", true)
  | 1 => ("TrainBook", "signBook", "LTrainBook$SignBook;", true)
  | 2 => ("TrainBook", "sheet", "LTrainBook$Table;", true)
  | 3 => ("TrainBook", "finder", "LTrainBook$WayFinder;", true)
  | 4 => ("TrainBook", "trainCount", "I", false)
  | _ => ("TrainBook", "changeMinutes", "I", false)
def tyX7 : Nat → FieldType := fun k => match k with
  | 0 => .array (.object "TrainBook$Train")
  | 1 => .object "TrainBook$SignBook"
  | 2 => .object "TrainBook$Table"
  | 3 => .object "TrainBook$WayFinder"
  | 4 => .int
  | _ => .int
abbrev wsX70 : List Cond := u_ws RX7 TX7 6
theorem nmX7 : ∀ a, a < 6 → ∀ b, b < 6 → a ≠ b → (TX7 a).2.1 ≠ (TX7 b).2.1 := by decide +kernel
theorem tyX7_ok : ∀ k, k < 6 → parseFieldDescriptor (TX7 k).2.2.1 = some (tyX7 k) := by decide +kernel
abbrev cX7_init : ByteArray := prog_1_method_1_code
def yX7_init : MethodName := ⟨RX7, "<init>", "()V"⟩
abbrev cX7_train : ByteArray := prog_1_method_2_code
def yX7_train : MethodName := ⟨RX7, "train", "(I)I"⟩
abbrev cX7_stop : ByteArray := prog_1_method_3_code
def yX7_stop : MethodName := ⟨RX7, "stop", "(IIII)I"⟩
abbrev cX7_days : ByteArray := prog_1_method_4_code
def yX7_days : MethodName := ⟨RX7, "days", "(II)Z"⟩
abbrev cX7_cut : ByteArray := prog_1_method_5_code
def yX7_cut : MethodName := ⟨RX7, "cut", "(I)Z"⟩
abbrev cX7_shift : ByteArray := prog_1_method_6_code
def yX7_shift : MethodName := ⟨RX7, "shift", "(II)Z"⟩
abbrev cX7_sign : ByteArray := prog_1_method_7_code
def yX7_sign : MethodName := ⟨RX7, "sign", "(II)Z"⟩
abbrev cX7_change : ByteArray := prog_1_method_8_code
def yX7_change : MethodName := ⟨RX7, "change", "(I)Z"⟩
abbrev cX7_about : ByteArray := prog_1_method_9_code
def yX7_about : MethodName := ⟨RX7, "about", "(I)I"⟩
abbrev cX7_signs : ByteArray := prog_1_method_10_code
def yX7_signs : MethodName := ⟨RX7, "signs", "(II)I"⟩
abbrev cX7_table : ByteArray := prog_1_method_11_code
def yX7_table : MethodName := ⟨RX7, "table", "(I)I"⟩
abbrev cX7_row : ByteArray := prog_1_method_12_code
def yX7_row : MethodName := ⟨RX7, "row", "(I)I"⟩
abbrev cX7_column : ByteArray := prog_1_method_13_code
def yX7_column : MethodName := ⟨RX7, "column", "(I)I"⟩
abbrev cX7_cell : ByteArray := prog_1_method_14_code
def yX7_cell : MethodName := ⟨RX7, "cell", "(III)I"⟩
abbrev cX7_breaches : ByteArray := prog_1_method_15_code
def yX7_breaches : MethodName := ⟨RX7, "breaches", "(I)I"⟩
abbrev cX7_breach : ByteArray := prog_1_method_16_code
def yX7_breach : MethodName := ⟨RX7, "breach", "(II)I"⟩
abbrev cX7_lanes : ByteArray := prog_1_method_17_code
def yX7_lanes : MethodName := ⟨RX7, "lanes", "()I"⟩
abbrev cX7_lane : ByteArray := prog_1_method_18_code
def yX7_lane : MethodName := ⟨RX7, "lane", "(I)I"⟩
abbrev cX7_way : ByteArray := prog_1_method_19_code
def yX7_way : MethodName := ⟨RX7, "way", "(IIIII)I"⟩
abbrev cX7_departures : ByteArray := prog_1_method_20_code
def yX7_departures : MethodName := ⟨RX7, "departures", "(III)I"⟩
abbrev cX7_departure : ByteArray := prog_1_method_21_code
def yX7_departure : MethodName := ⟨RX7, "departure", "(IIII)I"⟩
abbrev cX7_areDays : ByteArray := prog_1_method_22_code
def yX7_areDays : MethodName := ⟨RX7, "areDays", "(I)Z"⟩
abbrev cX7_isStation : ByteArray := prog_1_method_23_code
def yX7_isStation : MethodName := ⟨RX7, "isStation", "(I)Z"⟩
abbrev cX7_canTravel : ByteArray := prog_1_method_24_code
def yX7_canTravel : MethodName := ⟨RX7, "canTravel", "(III)Z"⟩
abbrev cX7_trainOf : ByteArray := prog_1_method_25_code
def yX7_trainOf : MethodName := ⟨RX7, "trainOf", "(I)LTrainBook$Train;"⟩
abbrev cX7_aboutBook : ByteArray := prog_1_method_26_code
def yX7_aboutBook : MethodName := ⟨RX7, "aboutBook", "(I)I"⟩
abbrev cX7_canBeTable : ByteArray := prog_1_method_27_code
def yX7_canBeTable : MethodName := ⟨RX7, "canBeTable", "(I)Z"⟩
def RX8 : String := "TrainBookModel"
def TX8 : u_T := fun k => match k with
  | 0 => ("TrainBookModel", "told", "I", false)
  | 1 => ("TrainBookModel", "trains", "I", false)
  | 2 => ("TrainBookModel", "change", "I", false)
  | 3 => ("TrainBookModel", "days", "[I", true)
  | 4 => ("TrainBookModel", "stops", "[I", true)
  | 5 => ("TrainBookModel", "station", "[I", true)
  | 6 => ("TrainBookModel", "comes", "[I", true)
  | 7 => ("TrainBookModel", "goes", "[I", true)
  | 8 => ("TrainBookModel", "signSet", "[I", true)
  | 9 => ("TrainBookModel", "rows", "I", false)
  | 10 => ("TrainBookModel", "columns", "I", false)
  | 11 => ("TrainBookModel", "rowStation", "[I", true)
  | 12 => ("TrainBookModel", "own", "[I", true)
  | 13 => ("TrainBookModel", "ownStops", "[I", true)
  | 14 => ("TrainBookModel", "ownStation", "[I", true)
  | 15 => ("TrainBookModel", "ownComes", "[I", true)
  | 16 => ("TrainBookModel", "ownGoes", "[I", true)
  | 17 => ("TrainBookModel", "ownRow", "[I", true)
  | 18 => ("TrainBookModel", "column", "[I", true)
  | 19 => ("TrainBookModel", "lane", "[I", true)
  | 20 => ("TrainBookModel", "laneMany", "I", false)
  | 21 => ("TrainBookModel", "far", "[I", true)
  | 22 => ("TrainBookModel", "tried", "[I", true)
  | 23 => ("TrainBookModel", "reached", "[Z", true)
  | 24 => ("TrainBookModel", "goesOnWith", "[Z", true)
  | 25 => ("TrainBookModel", "legs", "I", false)
  | 26 => ("TrainBookModel", "soon", "I", false)
  | 27 => ("TrainBookModel", "legTrain", "[I", true)
  | 28 => ("TrainBookModel", "legFrom", "[I", true)
  | 29 => ("TrainBookModel", "legTo", "[I", true)
  | 30 => ("TrainBookModel", "here", "[Z", true)
  | 31 => ("TrainBookModel", "there", "[Z", true)
  | 32 => ("TrainBookModel", "left", "[Z", true)
  | 33 => ("TrainBookModel", "departs", "I", false)
  | _ => ("TrainBookModel", "minuteOf", "[I", true)
def tyX8 : Nat → FieldType := fun k => match k with
  | 0 => .int
  | 1 => .int
  | 2 => .int
  | 3 => .array .int
  | 4 => .array .int
  | 5 => .array .int
  | 6 => .array .int
  | 7 => .array .int
  | 8 => .array .int
  | 9 => .int
  | 10 => .int
  | 11 => .array .int
  | 12 => .array .int
  | 13 => .array .int
  | 14 => .array .int
  | 15 => .array .int
  | 16 => .array .int
  | 17 => .array .int
  | 18 => .array .int
  | 19 => .array .int
  | 20 => .int
  | 21 => .array .int
  | 22 => .array .int
  | 23 => .array .boolean
  | 24 => .array .boolean
  | 25 => .int
  | 26 => .int
  | 27 => .array .int
  | 28 => .array .int
  | 29 => .array .int
  | 30 => .array .boolean
  | 31 => .array .boolean
  | 32 => .array .boolean
  | 33 => .int
  | _ => .array .int
abbrev wsX80 : List Cond := u_ws RX8 TX8 35
theorem nmX8 : ∀ a, a < 35 → ∀ b, b < 35 → a ≠ b → (TX8 a).2.1 ≠ (TX8 b).2.1 := by decide +kernel
theorem tyX8_ok : ∀ k, k < 35 → parseFieldDescriptor (TX8 k).2.2.1 = some (tyX8 k) := by decide +kernel
abbrev cX8_init : ByteArray := prog_10_method_1_code
def yX8_init : MethodName := ⟨RX8, "<init>", "()V"⟩
abbrev cX8_isTrain : ByteArray := prog_10_method_3_code
def yX8_isTrain : MethodName := ⟨RX8, "isTrain", "(I)Z"⟩
abbrev cX8_isStation : ByteArray := prog_10_method_4_code
def yX8_isStation : MethodName := ⟨RX8, "isStation", "(I)Z"⟩
abbrev cX8_isMinute : ByteArray := prog_10_method_5_code
def yX8_isMinute : MethodName := ⟨RX8, "isMinute", "(I)Z"⟩
abbrev cX8_isDays : ByteArray := prog_10_method_6_code
def yX8_isDays : MethodName := ⟨RX8, "isDays", "(I)Z"⟩
abbrev cX8_train : ByteArray := prog_10_method_7_code
def yX8_train : MethodName := ⟨RX8, "train", "(I)I"⟩
abbrev cX8_stopAt : ByteArray := prog_10_method_8_code
def yX8_stopAt : MethodName := ⟨RX8, "stopAt", "(II)I"⟩
abbrev cX8_stop : ByteArray := prog_10_method_9_code
def yX8_stop : MethodName := ⟨RX8, "stop", "(IIII)I"⟩
abbrev cX8_days : ByteArray := prog_10_method_10_code
def yX8_days : MethodName := ⟨RX8, "days", "(II)Z"⟩
abbrev cX8_cut : ByteArray := prog_10_method_11_code
def yX8_cut : MethodName := ⟨RX8, "cut", "(I)Z"⟩
abbrev cX8_shift : ByteArray := prog_10_method_12_code
def yX8_shift : MethodName := ⟨RX8, "shift", "(II)Z"⟩
abbrev cX8_sign : ByteArray := prog_10_method_13_code
def yX8_sign : MethodName := ⟨RX8, "sign", "(II)Z"⟩
abbrev cX8_change : ByteArray := prog_10_method_14_code
def yX8_change : MethodName := ⟨RX8, "change", "(I)Z"⟩
abbrev cX8_about : ByteArray := prog_10_method_15_code
def yX8_about : MethodName := ⟨RX8, "about", "(I)I"⟩
abbrev cX8_ones : ByteArray := prog_10_method_16_code
def yX8_ones : MethodName := ⟨RX8, "ones", "(I)I"⟩
abbrev cX8_signs : ByteArray := prog_10_method_17_code
def yX8_signs : MethodName := ⟨RX8, "signs", "(II)I"⟩
abbrev cX8_digit : ByteArray := prog_10_method_18_code
def yX8_digit : MethodName := ⟨RX8, "digit", "(II)I"⟩
abbrev cX8_behind : ByteArray := prog_10_method_19_code
def yX8_behind : MethodName := ⟨RX8, "behind", "(II)I"⟩
abbrev cX8_isPlace : ByteArray := prog_10_method_20_code
def yX8_isPlace : MethodName := ⟨RX8, "isPlace", "(I)Z"⟩
abbrev cX8_findRows : ByteArray := prog_10_method_21_code
def yX8_findRows : MethodName := ⟨RX8, "findRows", "()V"⟩
abbrev cX8_leaves : ByteArray := prog_10_method_22_code
def yX8_leaves : MethodName := ⟨RX8, "leaves", "(II)I"⟩
abbrev cX8_isBreach : ByteArray := prog_10_method_23_code
def yX8_isBreach : MethodName := ⟨RX8, "isBreach", "(II)Z"⟩
abbrev cX8_breachesOf : ByteArray := prog_10_method_24_code
def yX8_breachesOf : MethodName := ⟨RX8, "breachesOf", "([I)I"⟩
abbrev cX8_goesOn : ByteArray := prog_10_method_25_code
def yX8_goesOn : MethodName := ⟨RX8, "goesOn", "()Z"⟩
abbrev cX8_swap : ByteArray := prog_10_method_26_code
def yX8_swap : MethodName := ⟨RX8, "swap", "(II)V"⟩
abbrev cX8_findColumns : ByteArray := prog_10_method_27_code
def yX8_findColumns : MethodName := ⟨RX8, "findColumns", "()V"⟩
abbrev cX8_first : ByteArray := prog_10_method_28_code
def yX8_first : MethodName := ⟨RX8, "first", "(I)I"⟩
abbrev cX8_last : ByteArray := prog_10_method_29_code
def yX8_last : MethodName := ⟨RX8, "last", "(I)I"⟩
abbrev cX8_findLanes : ByteArray := prog_10_method_30_code
def yX8_findLanes : MethodName := ⟨RX8, "findLanes", "()V"⟩
abbrev cX8_isFree : ByteArray := prog_10_method_31_code
def yX8_isFree : MethodName := ⟨RX8, "isFree", "(II)Z"⟩
abbrev cX8_table : ByteArray := prog_10_method_32_code
def yX8_table : MethodName := ⟨RX8, "table", "(I)I"⟩
abbrev cX8_row : ByteArray := prog_10_method_33_code
def yX8_row : MethodName := ⟨RX8, "row", "(I)I"⟩
abbrev cX8_isColumn : ByteArray := prog_10_method_34_code
def yX8_isColumn : MethodName := ⟨RX8, "isColumn", "(I)Z"⟩
abbrev cX8_column : ByteArray := prog_10_method_35_code
def yX8_column : MethodName := ⟨RX8, "column", "(I)I"⟩
abbrev cX8_cell : ByteArray := prog_10_method_36_code
def yX8_cell : MethodName := ⟨RX8, "cell", "(III)I"⟩
abbrev cX8_breaches : ByteArray := prog_10_method_37_code
def yX8_breaches : MethodName := ⟨RX8, "breaches", "(I)I"⟩
abbrev cX8_breach : ByteArray := prog_10_method_38_code
def yX8_breach : MethodName := ⟨RX8, "breach", "(II)I"⟩
abbrev cX8_lanes : ByteArray := prog_10_method_39_code
def yX8_lanes : MethodName := ⟨RX8, "lanes", "()I"⟩
abbrev cX8_lane : ByteArray := prog_10_method_40_code
def yX8_lane : MethodName := ⟨RX8, "lane", "(I)I"⟩
abbrev cX8_runs : ByteArray := prog_10_method_41_code
def yX8_runs : MethodName := ⟨RX8, "runs", "(II)Z"⟩
abbrev cX8_canChange : ByteArray := prog_10_method_42_code
def yX8_canChange : MethodName := ⟨RX8, "canChange", "(II)Z"⟩
abbrev cX8_isBoarded : ByteArray := prog_10_method_43_code
def yX8_isBoarded : MethodName := ⟨RX8, "isBoarded", "(IIII)Z"⟩
abbrev cX8_soonest : ByteArray := prog_10_method_44_code
def yX8_soonest : MethodName := ⟨RX8, "soonest", "(IIII)I"⟩
abbrev cX8_findRest : ByteArray := prog_10_method_45_code
def yX8_findRest : MethodName := ⟨RX8, "findRest", "(II)V"⟩
abbrev cX8_canGoOn : ByteArray := prog_10_method_46_code
def yX8_canGoOn : MethodName := ⟨RX8, "canGoOn", "(III)Z"⟩
abbrev cX8_canBoard : ByteArray := prog_10_method_47_code
def yX8_canBoard : MethodName := ⟨RX8, "canBoard", "(IZII)Z"⟩
abbrev cX8_leavesAt : ByteArray := prog_10_method_48_code
def yX8_leavesAt : MethodName := ⟨RX8, "leavesAt", "(IZIII)Z"⟩
abbrev cX8_firstTrain : ByteArray := prog_10_method_49_code
def yX8_firstTrain : MethodName := ⟨RX8, "firstTrain", "(ZIIII)I"⟩
abbrev cX8_finds : ByteArray := prog_10_method_50_code
def yX8_finds : MethodName := ⟨RX8, "finds", "(IIII)Z"⟩
abbrev cX8_boardOf : ByteArray := prog_10_method_51_code
def yX8_boardOf : MethodName := ⟨RX8, "boardOf", "(IIIII)I"⟩
abbrev cX8_restGoes : ByteArray := prog_10_method_52_code
def yX8_restGoes : MethodName := ⟨RX8, "restGoes", "(III)Z"⟩
abbrev cX8_way : ByteArray := prog_10_method_53_code
def yX8_way : MethodName := ⟨RX8, "way", "(IIIII)I"⟩
abbrev cX8_findDepartures : ByteArray := prog_10_method_54_code
def yX8_findDepartures : MethodName := ⟨RX8, "findDepartures", "(III)V"⟩
abbrev cX8_isGone : ByteArray := prog_10_method_55_code
def yX8_isGone : MethodName := ⟨RX8, "isGone", "(III)Z"⟩
abbrev cX8_canDepart : ByteArray := prog_10_method_56_code
def yX8_canDepart : MethodName := ⟨RX8, "canDepart", "(III)Z"⟩
abbrev cX8_departures : ByteArray := prog_10_method_57_code
def yX8_departures : MethodName := ⟨RX8, "departures", "(III)I"⟩
abbrev cX8_departure : ByteArray := prog_10_method_58_code
def yX8_departure : MethodName := ⟨RX8, "departure", "(IIII)I"⟩
def RJ6 : String := "java/lang/Integer"
def TJ6 : u_T := fun k => match k with
  | _ => ("", "", "", false)
def tyJ6 : Nat → FieldType := fun k => match k with
  | _ => .int
abbrev wsJ60 : List Cond := u_ws RJ6 TJ6 0
theorem nmJ6 : ∀ a, a < 0 → ∀ b, b < 0 → a ≠ b → (TJ6 a).2.1 ≠ (TJ6 b).2.1 := by decide +kernel
theorem tyJ6_ok : ∀ k, k < 0 → parseFieldDescriptor (TJ6 k).2.2.1 = some (tyJ6 k) := by decide +kernel
abbrev cJ6_bitCount_0f7a4 : ByteArray := prog_11_method_49_code
def yJ6_bitCount_0f7a4 : MethodName := ⟨RJ6, "bitCount", "(I)I"⟩
def RJ9 : String := "java/lang/Math"
def TJ9 : u_T := fun k => match k with
  | _ => ("", "", "", false)
def tyJ9 : Nat → FieldType := fun k => match k with
  | _ => .int
abbrev wsJ90 : List Cond := u_ws RJ9 TJ9 0
theorem nmJ9 : ∀ a, a < 0 → ∀ b, b < 0 → a ≠ b → (TJ9 a).2.1 ≠ (TJ9 b).2.1 := by decide +kernel
theorem tyJ9_ok : ∀ k, k < 0 → parseFieldDescriptor (TJ9 k).2.2.1 = some (tyJ9 k) := by decide +kernel
abbrev cJ9_max_7cf53 : ByteArray := prog_12_method_65_code
def yJ9_max_7cf53 : MethodName := ⟨RJ9, "max", "(II)I"⟩
abbrev cJ9_min_7cf53 : ByteArray := prog_12_method_69_code
def yJ9_min_7cf53 : MethodName := ⟨RJ9, "min", "(II)I"⟩
def RJ10 : String := "java/lang/System"
def TJ10 : u_T := fun k => match k with
  | _ => ("", "", "", false)
def tyJ10 : Nat → FieldType := fun k => match k with
  | _ => .int
abbrev wsJ100 : List Cond := u_ws RJ10 TJ10 0
theorem nmJ10 : ∀ a, a < 0 → ∀ b, b < 0 → a ≠ b → (TJ10 a).2.1 ≠ (TJ10 b).2.1 := by decide +kernel
theorem tyJ10_ok : ∀ k, k < 0 → parseFieldDescriptor (TJ10 k).2.2.1 = some (tyJ10 k) := by decide +kernel
def RJ7 : String := "java/util/Arrays"
def TJ7 : u_T := fun k => match k with
  | _ => ("", "", "", false)
def tyJ7 : Nat → FieldType := fun k => match k with
  | _ => .int
abbrev wsJ70 : List Cond := u_ws RJ7 TJ7 0
theorem nmJ7 : ∀ a, a < 0 → ∀ b, b < 0 → a ≠ b → (TJ7 a).2.1 ≠ (TJ7 b).2.1 := by decide +kernel
theorem tyJ7_ok : ∀ k, k < 0 → parseFieldDescriptor (TJ7 k).2.2.1 = some (tyJ7 k) := by decide +kernel
abbrev cJ7_fill_53178 : ByteArray := prog_14_method_103_code
def yJ7_fill_53178 : MethodName := ⟨RJ7, "fill", "([II)V"⟩
def RL : String := "TrainBookLaw"
abbrev cL_law : ByteArray := code
def yL_law : MethodName := ⟨RL, "law", "([I)Z"⟩
abbrev vwCl : List vw_C := [(RX0, TX0, 6), (RX1, TX1, 3), (RX2, TX2, 9), (RX3, TX3, 1), (RX4, TX4, 7), (RX5, TX5, 6), (RX6, TX6, 16), (RX7, TX7, 6), (RX8, TX8, 35)]
end
section
/-! PICTURES OF THE HEAP. qI: the ints (fields and elements) by cell and place; qR: references by cell and place, kinds and lengths of the cells, how many cells there are. Cells are counted from the law's own start. -/
abbrev qI : Type := Nat → Nat → Int32
abbrev qR : Type := (Nat → Nat → Option Nat) × (Nat → Nat × Nat) × Nat × Nat
abbrev qG : Type := Nat × va_G × ClassId × ClassId × ClassId
def qrf (b : Nat) (r : Option Nat) : Option Nat := r.map (fun k => b + k)
def qflds (ci : Nat) (i : Nat → Int32) (p : Nat → Option Nat) : List Value := match ci with
  | 0 => [va_rf (p 0), .int (i 1), .int (i 2), .int (i 3), va_rf (p 4), va_rf (p 5)]
  | 1 => [.int (i 0), va_rf (p 1), va_rf (p 2)]
  | 2 => [.int (i 0), va_rf (p 1), .int (i 2), .int (i 3), .int (i 4), va_rf (p 5), va_rf (p 6), va_rf (p 7), va_rf (p 8)]
  | 3 => [va_rf (p 0)]
  | 4 => [va_rf (p 0), va_rf (p 1), va_rf (p 2), va_rf (p 3), va_rf (p 4), va_rf (p 5), .int (i 6)]
  | 5 => [.int (i 0), .int (i 1), va_rf (p 2), va_rf (p 3), va_rf (p 4), va_rf (p 5)]
  | 6 => [va_rf (p 0), .int (i 1), .int (i 2), .int (i 3), va_rf (p 4), va_rf (p 5), .int (i 6), .int (i 7), va_rf (p 8), va_rf (p 9), va_rf (p 10), va_rf (p 11), va_rf (p 12), .int (i 13), va_rf (p 14), .int (i 15)]
  | 7 => [va_rf (p 0), va_rf (p 1), va_rf (p 2), va_rf (p 3), .int (i 4), .int (i 5)]
  | _ => [.int (i 0), .int (i 1), .int (i 2), va_rf (p 3), va_rf (p 4), va_rf (p 5), va_rf (p 6), va_rf (p 7), va_rf (p 8), .int (i 9), .int (i 10), va_rf (p 11), va_rf (p 12), va_rf (p 13), va_rf (p 14), va_rf (p 15), va_rf (p 16), va_rf (p 17), va_rf (p 18), va_rf (p 19), .int (i 20), va_rf (p 21), va_rf (p 22), va_rf (p 23), va_rf (p 24), .int (i 25), .int (i 26), va_rf (p 27), va_rf (p 28), va_rf (p 29), va_rf (p 30), va_rf (p 31), va_rf (p 32), .int (i 33), va_rf (p 34)]
/-- the kind that a reference in a place of a cell of a kind has -/
def qfk (c k : Nat) : Nat := match c, k with
  | 0, 0 => 9
  | 0, 4 => 9
  | 0, 5 => 9
  | 1, 1 => 9
  | 1, 2 => 9
  | 2, 1 => 9
  | 2, 5 => 9
  | 2, 6 => 9
  | 2, 7 => 9
  | 2, 8 => 9
  | 3, 0 => 9
  | 4, 0 => 11
  | 4, 1 => 9
  | 4, 2 => 9
  | 4, 3 => 2
  | 4, 4 => 0
  | 4, 5 => 1
  | 5, 2 => 9
  | 5, 3 => 9
  | 5, 4 => 9
  | 5, 5 => 9
  | 6, 0 => 11
  | 6, 4 => 9
  | 6, 5 => 9
  | 6, 8 => 9
  | 6, 9 => 9
  | 6, 10 => 9
  | 6, 11 => 9
  | 6, 12 => 9
  | 6, 14 => 9
  | 7, 0 => 11
  | 7, 1 => 3
  | 7, 2 => 4
  | 7, 3 => 6
  | 8, 3 => 9
  | 8, 4 => 9
  | 8, 5 => 9
  | 8, 6 => 9
  | 8, 7 => 9
  | 8, 8 => 9
  | 8, 11 => 9
  | 8, 12 => 9
  | 8, 13 => 9
  | 8, 14 => 9
  | 8, 15 => 9
  | 8, 16 => 9
  | 8, 17 => 9
  | 8, 18 => 9
  | 8, 19 => 9
  | 8, 21 => 9
  | 8, 22 => 9
  | 8, 23 => 10
  | 8, 24 => 10
  | 8, 27 => 9
  | 8, 28 => 9
  | 8, 29 => 9
  | 8, 30 => 10
  | 8, 31 => 10
  | 8, 32 => 10
  | 8, 34 => 9
  | 11, _ => 5
  | _, _ => 0
def qcell (G : qG) (I : qI) (R : qR) (a : Nat) : va_E := match (R.2.1 a).1 with
  | 9 => .inl (G.2.2.1, (R.2.1 a).2, .inl (I a))
  | 10 => .inl (G.2.2.2.1, (R.2.1 a).2, .inl (I a))
  | 11 => .inl (G.2.2.2.2, (R.2.1 a).2, .inr (.inr (.inr (.inr (fun j => qrf G.1 (R.1 a j))))))
  | ci => .inr (ci, qflds ci (I a) (fun j => qrf G.1 (R.1 a j)))
def qw (G : qG) (I : qI) (R : qR) : va_W := (List.range R.2.2.1).map (fun k => (G.1 + k, qcell G I R k))
def qRP (G : qG) (I : qI) (R : qR) (H : Heap) : Prop := va_P G.2.1 vwCl (qw G I R) H
def qA (G : qG) : Nat → Prop := fun q => G.1 ≤ q
def qtys (G : qG) : List (ClassId × FieldType) := [(G.2.2.1, .int), (G.2.2.2.1, .boolean), (G.2.2.2.2, .object RX5)]
theorem qw_at (G : qG) (I : qI) (R : qR) {k : Nat} (h : k < R.2.2.1) : (qw G I R)[k]? = some (G.1 + k, qcell G I R k) := by
  simp [qw, h]
theorem qw_of {G : qG} {I : qI} {R : qR} {k : Nat} {q : Nat × va_E} (h : (qw G I R)[k]? = some q) : k < R.2.2.1 ∧ q = (G.1 + k, qcell G I R k) := by
  have hl : k < R.2.2.1 := by
    have := (List.getElem?_eq_some_iff.mp h).1
    simpa [qw] using this
  rw [qw_at G I R hl] at h
  exact ⟨hl, (Option.some.inj h).symm⟩
theorem qD (G : qG) (I : qI) (R : qR) : va_D (qA G) (qw G I R) := by
  refine ⟨fun i j p q hp hq h => ?_, fun k q hq => ?_⟩
  · obtain ⟨-, rfl⟩ := qw_of hp
    obtain ⟨-, rfl⟩ := qw_of hq
    have h' : G.1 + i = G.1 + j := h
    omega
  · obtain ⟨-, rfl⟩ := qw_of hq
    exact Nat.le_add_right _ _
/-- one cell moved -/
theorem qw_set (G : qG) (I I' : qI) (R R' : qR) {k : Nat} (hn : R'.2.2.1 = R.2.2.1) (h : ∀ j, j ≠ k → qcell G I' R' j = qcell G I R j) : (qw G I R).set k (G.1 + k, qcell G I' R' k) = qw G I' R' := by
  apply List.ext_getElem?
  intro j
  rw [List.getElem?_set]
  by_cases hj : k = j
  · subst hj
    by_cases hl : k < R.2.2.1
    · rw [if_pos rfl, qw_at G I' R' (by omega)]
      simp [qw, hl]
    · simp [qw, hl, hn]
  · rw [if_neg hj]
    by_cases hl : j < R.2.2.1
    · rw [qw_at G I R hl, qw_at G I' R' (by omega), h j (fun e => hj e.symm)]
    · simp [qw, hl, hn]
/-- one cell more -/
theorem qw_push (G : qG) (I I' : qI) (R R' : qR) (hn : R'.2.2.1 = R.2.2.1 + 1) (h : ∀ j, j < R.2.2.1 → qcell G I' R' j = qcell G I R j) : qw G I R ++ [(G.1 + R.2.2.1, qcell G I' R' R.2.2.1)] = qw G I' R' := by
  unfold qw
  rw [hn, List.range_succ, List.map_append]
  refine congrArg (· ++ _) ?_
  exact List.map_congr_left (fun j hj => by rw [h j (List.mem_range.mp hj)])
/-! THE WORDS: of the tables' words those that stay -/
def wW : List Cond := lw_tbl.filter goodWord
theorem wW_in {w : Cond} (h : w ∈ lw_tbl) (hg : goodWord w = true) : w ∈ wW := List.mem_filter.mpr ⟨h, hg⟩
theorem wW_at (i : Nat) {w : Cond} (h : lw_tbl[i]? = some w) (hg : goodWord w = true) : w ∈ wW := wW_in (List.mem_of_getElem? h) hg
theorem wW_good : GoodIn wW wW := fun w h => ⟨h, good_of_word (List.mem_filter.mp h).2⟩
abbrev qM : Type := MethodName × ByteArray × Nat × Option FieldType
def qws (M : qM) : List Cond := .code M.1 M.2.1 M.2.2.1 M.2.2.2 :: wW
theorem qws_good {M : qM} (h : Cond.code M.1 M.2.1 M.2.2.1 M.2.2.2 ∈ wW) : GoodIn wW (qws M) := fun w hw => by
  rcases List.mem_cons.mp hw with rfl | hw
  · exact wW_good _ h
  · exact wW_good w hw
/-- what holds of the tables -/
def qNest : List Cond := lw_tbl.filter (fun w => match w with | .methodLinkNest .. => true | _ => false)
def qK (G : qG) (U : State) : Prop := va_K G.2.1 vwCl (qtys G) U ∧ (∀ w ∈ qNest, va_Nw w U) ∧ va_AO RX5 U
theorem qK.moved {G : qG} {u U : State} (hW : u.WarmedH U.vm) (h : qK G u) : qK G U := by
  refine ⟨va_K.moved hW.alike h.1, fun w hw => ?_, h.2.2.moved hW.alike⟩
  have h1 := h.2.1 w hw
  have h2 := (List.mem_filter.mp hw).2
  cases w <;> first | exact va_Nw.warmM hW h1 | (simp at h2)
theorem qK.same {G : qG} {u U : State} (hW : U.vm = u.vm) (h : qK G u) : qK G U := by
  refine ⟨va_K.moved (u := u) (by rw [hW]; exact Vm.Alike.refl _) h.1, fun w hw => ?_, h.2.2.moved (by rw [hW]; exact Vm.Alike.refl _)⟩
  have h1 := h.2.1 w hw
  have h2 := (List.mem_filter.mp hw).2
  cases w <;> first | exact va_Nw.same rfl hW.symm h1 | (simp at h2)
abbrev qZ : Type := Launch × qG × qM × List Value × (State → Prop) × Room × (Nat × Nat) × (List Frame → State → State → Prop)
abbrev zl (Z : qZ) : Launch := Z.1
abbrev zG (Z : qZ) : qG := Z.2.1
abbrev zM (Z : qZ) : qM := Z.2.2.1
abbrev zc (Z : qZ) : ByteArray := Z.2.2.1.2.1
abbrev zn (Z : qZ) : Nat := Z.2.2.1.2.2.1
abbrev zA (Z : qZ) : List Value := Z.2.2.2.1
abbrev zE (Z : qZ) : State → Prop := Z.2.2.2.2.1
abbrev zR (Z : qZ) : Room := Z.2.2.2.2.2.1
abbrev zN (Z : qZ) : Nat := Z.2.2.2.2.2.2.1.1
abbrev zS (Z : qZ) : Nat := Z.2.2.2.2.2.2.1.2
abbrev zQ (Z : qZ) : List Frame → State → State → Prop := Z.2.2.2.2.2.2.2
def qCX (Z : qZ) (p : Program) (s : State) (m : MethodId) (meth : Method) (c : Code) : Prop :=
  p.tables.exec = Jvm.exec ∧ c.code = zc Z ∧ meth.sig.returnType = (zM Z).2.2.2 ∧ c.maxLocals = zn Z ∧ s.vm.findClass (zM Z).1.cls = some m.cls ∧ (∀ w ∈ wW, w.before (zA Z).toArray s = true) ∧ meth.locks = false ∧ meth.name = (zM Z).1.name ∧ qK (zG Z) s ∧ s.heap.size = (zG Z).1 + zN Z ∧ zE Z s
/-- THE JUDGEMENT: at pc, with locals lv, stack st, heap picture (I, R), the machine comes to the method's end as Z has it -/
def AW (Z : qZ) (pc : Nat) (lv : List (Nat × Value)) (st : List Value) (I : qI) (R : qR) : Prop :=
  ∀ (p : Program) (e : Env) (s : State) (m : MethodId) (below : List Frame) (meth : Method) (c : Code) (H : Heap) (locs : List Loc) (ls : Array Slot), qCX Z p s m meth c → (qRP (zG Z) I R H ∧ zN Z ≤ R.2.2.1 ∧ zS Z ≤ R.2.2.2) → va_S (qA (zG Z)) s.heap H locs → lv_has ls (zn Z) lv →
    W p (zl Z) e (zR Z) s m (zA Z).toArray below meth c H locs (R.2.2.1 - zN Z) (R.2.2.2 - zS Z) (zQ Z below s) (F0 m pc ls st)
section AWR
variable {Z : qZ} {pc : Nat} {lv : List (Nat × Value)} {st : List Value} {I : qI} {R : qR}
theorem aw_sub (ks : List Nat) {lv' : List (Nat × Value)} (hl : lv_pick lv ks = lv') (h : AW Z pc lv' st I R) : AW Z pc lv st I R :=
  fun p e s m below meth c H locs ls C hR hS hv => h p e s m below meth c H locs ls C hR hS (lv_sub hv ks hl)
theorem aw_pc {pc' : Nat} (hp : pc = pc') (h : AW Z pc' lv st I R) : AW Z pc lv st I R := hp ▸ h
theorem aw_iconst {j : Int} {v : Int32} (hd : decode (zc Z) pc = .ok (.iconst j, 1)) (hv : Int32.ofInt j = v) (h : AW Z (pc + 1) lv (.int v :: st) I R) : AW Z pc lv st I R :=
  fun p e s m below meth c H locs ls C hR hS hw => lv_iconst C.1 C.2.1 hd hv (h p e s m below meth c H locs ls C hR hS hw)
theorem aw_bipush {j : Int} {v : Int32} (hd : decode (zc Z) pc = .ok (.bipush j, 2)) (hv : (Int8.ofInt j).toInt32 = v) (h : AW Z (pc + 2) lv (.int v :: st) I R) : AW Z pc lv st I R :=
  fun p e s m below meth c H locs ls C hR hS hw => lv_bipush C.1 C.2.1 hd hv (h p e s m below meth c H locs ls C hR hS hw)
theorem aw_sipush {j : Int} {v : Int32} (hd : decode (zc Z) pc = .ok (.sipush j, 3)) (hv : (Int16.ofInt j).toInt32 = v) (h : AW Z (pc + 3) lv (.int v :: st) I R) : AW Z pc lv st I R :=
  fun p e s m below meth c H locs ls C hR hS hw => lv_sipush C.1 C.2.1 hd hv (h p e s m below meth c H locs ls C hR hS hw)
theorem aw_lconst {j : Fin 2} {v : Int64} (hd : decode (zc Z) pc = .ok (.lconst j, 1)) (hv : Int64.ofNat (j : Nat) = v) (h : AW Z (pc + 1) lv (.long v :: st) I R) : AW Z pc lv st I R :=
  fun p e s m below meth c H locs ls C hR hS hw => lv_lconst C.1 C.2.1 hd hv (h p e s m below meth c H locs ls C hR hS hw)
theorem aw_ldc {own : String} {index : Nat} {v : Int32} (hw : Cond.constant own index v ∈ wW) (ho : (zM Z).1.cls = own) (hd : decode (zc Z) pc = .ok (.ldc index, 2)) (h : AW Z (pc + 2) lv (.int v :: st) I R) : AW Z pc lv st I R :=
  fun p e s m below meth c H locs ls C hR hS hv => lv_ldc C.1 C.2.1 C.2.2.2.2.1 (C.2.2.2.2.2.1 _ (ho ▸ hw)) hd (h p e s m below meth c H locs ls C hR hS hv)
theorem aw_ldcw {own : String} {index : Nat} {v : Int32} (hw : Cond.constant own index v ∈ wW) (ho : (zM Z).1.cls = own) (hd : decode (zc Z) pc = .ok (.ldc_w index, 3)) (h : AW Z (pc + 3) lv (.int v :: st) I R) : AW Z pc lv st I R :=
  fun p e s m below meth c H locs ls C hR hS hv => lv_ldcw C.1 C.2.1 C.2.2.2.2.1 (C.2.2.2.2.2.1 _ (ho ▸ hw)) hd (h p e s m below meth c H locs ls C hR hS hv)
theorem aw_ldc2 {own : String} {index : Nat} {v : Int64} (hw : Cond.constantLong own index v ∈ wW) (ho : (zM Z).1.cls = own) (hd : decode (zc Z) pc = .ok (.ldc2_w index, 3)) (h : AW Z (pc + 3) lv (.long v :: st) I R) : AW Z pc lv st I R :=
  fun p e s m below meth c H locs ls C hR hS hv => lv_ldc2 C.1 C.2.1 C.2.2.2.2.1 (C.2.2.2.2.2.1 _ (ho ▸ hw)) hd (h p e s m below meth c H locs ls C hR hS hv)
theorem aw_iload_n {j : Fin 4} {x : Int32} (hd : decode (zc Z) pc = .ok (.iload_n j, 1)) (q : Nat) {i : Nat} (hl : lv[q]? = some (i, .int x)) (hi : (j : Nat) = i) (h : AW Z (pc + 1) lv (.int x :: st) I R) : AW Z pc lv st I R :=
  fun p e s m below meth c H locs ls C hR hS hv => lv_iload_n C.1 C.2.1 hd hi (lv_at hv q hl) (h p e s m below meth c H locs ls C hR hS hv)
theorem aw_iload {i : Nat} {x : Int32} (hd : decode (zc Z) pc = .ok (.iload i, 2)) (q : Nat) (hl : lv[q]? = some (i, .int x)) (h : AW Z (pc + 2) lv (.int x :: st) I R) : AW Z pc lv st I R :=
  fun p e s m below meth c H locs ls C hR hS hv => lv_iload C.1 C.2.1 hd (lv_at hv q hl) (h p e s m below meth c H locs ls C hR hS hv)
theorem aw_lload_n {j : Fin 4} {x : Int64} (hd : decode (zc Z) pc = .ok (.lload_n j, 1)) (q : Nat) {i : Nat} (hl : lv[q]? = some (i, .long x)) (hi : (j : Nat) = i) (h : AW Z (pc + 1) lv (.long x :: st) I R) : AW Z pc lv st I R :=
  fun p e s m below meth c H locs ls C hR hS hv => lv_lload_n C.1 C.2.1 hd hi (lv_at hv q hl) (h p e s m below meth c H locs ls C hR hS hv)
theorem aw_lload {i : Nat} {x : Int64} (hd : decode (zc Z) pc = .ok (.lload i, 2)) (q : Nat) (hl : lv[q]? = some (i, .long x)) (h : AW Z (pc + 2) lv (.long x :: st) I R) : AW Z pc lv st I R :=
  fun p e s m below meth c H locs ls C hR hS hv => lv_lload C.1 C.2.1 hd (lv_at hv q hl) (h p e s m below meth c H locs ls C hR hS hv)
theorem aw_aload_n {j : Fin 4} {x : Nat} (hd : decode (zc Z) pc = .ok (.aload_n j, 1)) (q : Nat) {i : Nat} (hl : lv[q]? = some (i, .ref x)) (hi : (j : Nat) = i) (h : AW Z (pc + 1) lv (.ref x :: st) I R) : AW Z pc lv st I R :=
  fun p e s m below meth c H locs ls C hR hS hv => lv_aload_n C.1 C.2.1 hd hi (lv_at hv q hl) (h p e s m below meth c H locs ls C hR hS hv)
theorem aw_aload {i : Nat} {x : Nat} (hd : decode (zc Z) pc = .ok (.aload i, 2)) (q : Nat) (hl : lv[q]? = some (i, .ref x)) (h : AW Z (pc + 2) lv (.ref x :: st) I R) : AW Z pc lv st I R :=
  fun p e s m below meth c H locs ls C hR hS hv => lv_aload C.1 C.2.1 hd (lv_at hv q hl) (h p e s m below meth c H locs ls C hR hS hv)
theorem aw_aload_nN {j : Fin 4} (hd : decode (zc Z) pc = .ok (.aload_n j, 1)) (q : Nat) {i : Nat} (hl : lv[q]? = some (i, .null)) (hi : (j : Nat) = i) (h : AW Z (pc + 1) lv (.null :: st) I R) : AW Z pc lv st I R :=
  fun p e s m below meth c H locs ls C hR hS hv => lv_aload_nN C.1 C.2.1 hd hi (lv_at hv q hl) (h p e s m below meth c H locs ls C hR hS hv)
theorem aw_istore_n {j : Fin 4} {i : Nat} {x : Int32} {lv' : List (Nat × Value)} (hd : decode (zc Z) pc = .ok (.istore_n j, 1)) (hi : (j : Nat) = i) (hn : i < zn Z) (hl : (i, Value.int x) :: lv.filter (fun q => !(q.1 == i) && !(q.1 + 1 == i && q.2.category == 2)) = lv') (h : AW Z (pc + 1) lv' st I R) : AW Z pc lv (.int x :: st) I R :=
  fun p e s m below meth c H locs ls C hR hS hv => lv_istore_n C.1 C.2.1 hd hi hv hn hl (fun ls hv => h p e s m below meth c H locs ls C hR hS hv)
theorem aw_istore {i : Nat} {x : Int32} {lv' : List (Nat × Value)} (hd : decode (zc Z) pc = .ok (.istore i, 2)) (hn : i < zn Z) (hl : (i, Value.int x) :: lv.filter (fun q => !(q.1 == i) && !(q.1 + 1 == i && q.2.category == 2)) = lv') (h : AW Z (pc + 2) lv' st I R) : AW Z pc lv (.int x :: st) I R :=
  fun p e s m below meth c H locs ls C hR hS hv => lv_istore C.1 C.2.1 hd hv hn hl (fun ls hv => h p e s m below meth c H locs ls C hR hS hv)
theorem aw_lstore_n {j : Fin 4} {i : Nat} {x : Int64} {lv' : List (Nat × Value)} (hd : decode (zc Z) pc = .ok (.lstore_n j, 1)) (hi : (j : Nat) = i) (hn : i + 1 < zn Z) (hl : (i, Value.long x) :: lv.filter (fun q => !(q.1 == i) && (!(q.1 == i + 1) && !(q.1 + 1 == i && q.2.category == 2))) = lv') (h : AW Z (pc + 1) lv' st I R) : AW Z pc lv (.long x :: st) I R :=
  fun p e s m below meth c H locs ls C hR hS hv => lv_lstore_n C.1 C.2.1 hd hi hv hn hl (fun ls hv => h p e s m below meth c H locs ls C hR hS hv)
theorem aw_lstore {i : Nat} {x : Int64} {lv' : List (Nat × Value)} (hd : decode (zc Z) pc = .ok (.lstore i, 2)) (hn : i + 1 < zn Z) (hl : (i, Value.long x) :: lv.filter (fun q => !(q.1 == i) && (!(q.1 == i + 1) && !(q.1 + 1 == i && q.2.category == 2))) = lv') (h : AW Z (pc + 2) lv' st I R) : AW Z pc lv (.long x :: st) I R :=
  fun p e s m below meth c H locs ls C hR hS hv => lv_lstore C.1 C.2.1 hd hv hn hl (fun ls hv => h p e s m below meth c H locs ls C hR hS hv)
theorem aw_astore_n {j : Fin 4} {i : Nat} {x : Nat} {lv' : List (Nat × Value)} (hd : decode (zc Z) pc = .ok (.astore_n j, 1)) (hi : (j : Nat) = i) (hn : i < zn Z) (hl : (i, Value.ref x) :: lv.filter (fun q => !(q.1 == i) && !(q.1 + 1 == i && q.2.category == 2)) = lv') (h : AW Z (pc + 1) lv' st I R) : AW Z pc lv (.ref x :: st) I R :=
  fun p e s m below meth c H locs ls C hR hS hv => lv_astore_n C.1 C.2.1 hd hi hv hn hl (fun ls hv => h p e s m below meth c H locs ls C hR hS hv)
theorem aw_astore {i : Nat} {x : Nat} {lv' : List (Nat × Value)} (hd : decode (zc Z) pc = .ok (.astore i, 2)) (hn : i < zn Z) (hl : (i, Value.ref x) :: lv.filter (fun q => !(q.1 == i) && !(q.1 + 1 == i && q.2.category == 2)) = lv') (h : AW Z (pc + 2) lv' st I R) : AW Z pc lv (.ref x :: st) I R :=
  fun p e s m below meth c H locs ls C hR hS hv => lv_astore C.1 C.2.1 hd hv hn hl (fun ls hv => h p e s m below meth c H locs ls C hR hS hv)
theorem aw_astore_nN {j : Fin 4} {i : Nat} {lv' : List (Nat × Value)} (hd : decode (zc Z) pc = .ok (.astore_n j, 1)) (hi : (j : Nat) = i) (hn : i < zn Z) (hl : (i, Value.null) :: lv.filter (fun q => !(q.1 == i) && !(q.1 + 1 == i && q.2.category == 2)) = lv') (h : AW Z (pc + 1) lv' st I R) : AW Z pc lv (.null :: st) I R :=
  fun p e s m below meth c H locs ls C hR hS hv => lv_astore_nN C.1 C.2.1 hd hi hv hn hl (fun ls hv => h p e s m below meth c H locs ls C hR hS hv)
theorem aw_iinc {i q : Nat} {j : Int} {x v : Int32} {lv' : List (Nat × Value)} (hd : decode (zc Z) pc = .ok (.iinc i j, 3)) (hk : lv[q]? = some (i, .int x)) (hv : x + Int32.ofInt j = v) (hn : i < zn Z) (hl : (i, Value.int v) :: lv.filter (fun q => !(q.1 == i) && !(q.1 + 1 == i && q.2.category == 2)) = lv') (h : AW Z (pc + 3) lv' st I R) : AW Z pc lv st I R :=
  fun p e s m below meth c H locs ls C hR hS hw => lv_iinc C.1 C.2.1 hd hw hk hv hn hl (fun ls hv => h p e s m below meth c H locs ls C hR hS hv)
theorem aw_iadd {x y : Int32} (hd : decode (zc Z) pc = .ok (.iadd, 1)) (h : AW Z (pc + 1) lv (.int (x + y) :: st) I R) : AW Z pc lv (.int y :: .int x :: st) I R :=
  fun p e s m below meth c H locs ls C hR hS hv => lv_iadd C.1 C.2.1 hd (h p e s m below meth c H locs ls C hR hS hv)
theorem aw_isub {x y : Int32} (hd : decode (zc Z) pc = .ok (.isub, 1)) (h : AW Z (pc + 1) lv (.int (x - y) :: st) I R) : AW Z pc lv (.int y :: .int x :: st) I R :=
  fun p e s m below meth c H locs ls C hR hS hv => lv_isub C.1 C.2.1 hd (h p e s m below meth c H locs ls C hR hS hv)
theorem aw_imul {x y : Int32} (hd : decode (zc Z) pc = .ok (.imul, 1)) (h : AW Z (pc + 1) lv (.int (x * y) :: st) I R) : AW Z pc lv (.int y :: .int x :: st) I R :=
  fun p e s m below meth c H locs ls C hR hS hv => lv_imul C.1 C.2.1 hd (h p e s m below meth c H locs ls C hR hS hv)
theorem aw_iand {x y : Int32} (hd : decode (zc Z) pc = .ok (.iand, 1)) (h : AW Z (pc + 1) lv (.int (x &&& y) :: st) I R) : AW Z pc lv (.int y :: .int x :: st) I R :=
  fun p e s m below meth c H locs ls C hR hS hv => lv_iand C.1 C.2.1 hd (h p e s m below meth c H locs ls C hR hS hv)
theorem aw_ior {x y : Int32} (hd : decode (zc Z) pc = .ok (.ior, 1)) (h : AW Z (pc + 1) lv (.int (x ||| y) :: st) I R) : AW Z pc lv (.int y :: .int x :: st) I R :=
  fun p e s m below meth c H locs ls C hR hS hv => lv_ior C.1 C.2.1 hd (h p e s m below meth c H locs ls C hR hS hv)
theorem aw_ixor {x y : Int32} (hd : decode (zc Z) pc = .ok (.ixor, 1)) (h : AW Z (pc + 1) lv (.int (x ^^^ y) :: st) I R) : AW Z pc lv (.int y :: .int x :: st) I R :=
  fun p e s m below meth c H locs ls C hR hS hv => lv_ixor C.1 C.2.1 hd (h p e s m below meth c H locs ls C hR hS hv)
theorem aw_ishl {x y : Int32} (hd : decode (zc Z) pc = .ok (.ishl, 1)) (h : AW Z (pc + 1) lv (.int (x <<< (y &&& 31)) :: st) I R) : AW Z pc lv (.int y :: .int x :: st) I R :=
  fun p e s m below meth c H locs ls C hR hS hv => lv_ishl C.1 C.2.1 hd (h p e s m below meth c H locs ls C hR hS hv)
theorem aw_ishr {x y : Int32} (hd : decode (zc Z) pc = .ok (.ishr, 1)) (h : AW Z (pc + 1) lv (.int (x >>> (y &&& 31)) :: st) I R) : AW Z pc lv (.int y :: .int x :: st) I R :=
  fun p e s m below meth c H locs ls C hR hS hv => lv_ishr C.1 C.2.1 hd (h p e s m below meth c H locs ls C hR hS hv)
theorem aw_iushr {x y : Int32} (hd : decode (zc Z) pc = .ok (.iushr, 1)) (h : AW Z (pc + 1) lv (.int ((x.toUInt32 >>> (y.toUInt32 &&& Int32.toUInt32 31)).toInt32) :: st) I R) : AW Z pc lv (.int y :: .int x :: st) I R :=
  fun p e s m below meth c H locs ls C hR hS hv => lv_iushr C.1 C.2.1 hd rfl (h p e s m below meth c H locs ls C hR hS hv)
theorem aw_idiv {x y : Int32} (hd : decode (zc Z) pc = .ok (.idiv, 1)) (hy : ¬ y = 0) (h : AW Z (pc + 1) lv (.int (x / y) :: st) I R) : AW Z pc lv (.int y :: .int x :: st) I R :=
  fun p e s m below meth c H locs ls C hR hS hv => lv_idiv C.1 C.2.1 hd hy (h p e s m below meth c H locs ls C hR hS hv)
theorem aw_irem {x y : Int32} (hd : decode (zc Z) pc = .ok (.irem, 1)) (hy : ¬ y = 0) (h : AW Z (pc + 1) lv (.int (x - x / y * y) :: st) I R) : AW Z pc lv (.int y :: .int x :: st) I R :=
  fun p e s m below meth c H locs ls C hR hS hv => lv_irem C.1 C.2.1 hd hy (h p e s m below meth c H locs ls C hR hS hv)
theorem aw_ladd {x y : Int64} (hd : decode (zc Z) pc = .ok (.ladd, 1)) (h : AW Z (pc + 1) lv (.long (x + y) :: st) I R) : AW Z pc lv (.long y :: .long x :: st) I R :=
  fun p e s m below meth c H locs ls C hR hS hv => lv_ladd C.1 C.2.1 hd (h p e s m below meth c H locs ls C hR hS hv)
theorem aw_i2l {x : Int32} (hd : decode (zc Z) pc = .ok (.i2l, 1)) (h : AW Z (pc + 1) lv (.long x.toInt64 :: st) I R) : AW Z pc lv (.int x :: st) I R :=
  fun p e s m below meth c H locs ls C hR hS hv => lv_i2l C.1 C.2.1 hd rfl (h p e s m below meth c H locs ls C hR hS hv)
theorem aw_dup {va : Value} (hd : decode (zc Z) pc = .ok (.dup, 1)) (hc : va.category = 1) (h : AW Z (pc + 1) lv (va :: va :: st) I R) : AW Z pc lv (va :: st) I R :=
  fun p e s m below meth c H locs ls C hR hS hv => lv_dup C.1 C.2.1 hd hc (h p e s m below meth c H locs ls C hR hS hv)
theorem aw_dup2 {va vb : Value} (hd : decode (zc Z) pc = .ok (.dup2, 1)) (hc : va.category = 1) (hc2 : vb.category = 1) (h : AW Z (pc + 1) lv (va :: vb :: va :: vb :: st) I R) : AW Z pc lv (va :: vb :: st) I R :=
  fun p e s m below meth c H locs ls C hR hS hv => lv_dup2_11 C.1 C.2.1 hd hc hc2 (h p e s m below meth c H locs ls C hR hS hv)
theorem aw_if_eq {x : Int32} {off : Int} {tgt : Nat} (hd : decode (zc Z) pc = .ok (.ifCond .eq off, 3)) (ht : (pc : Int) + off = (tgt : Int)) (h1 : x = 0 → AW Z tgt lv st I R) (h2 : ¬ x = 0 → AW Z (pc + 3) lv st I R) : AW Z pc lv (.int x :: st) I R :=
  fun p e s m below meth c H locs ls C hR hS hv => lv_if_eq C.1 C.2.1 hd ht (fun q => h1 q p e s m below meth c H locs ls C hR hS hv) (fun q => h2 q p e s m below meth c H locs ls C hR hS hv)
theorem aw_icmp_eq {x y : Int32} {off : Int} {tgt : Nat} (hd : decode (zc Z) pc = .ok (.if_icmp .eq off, 3)) (ht : (pc : Int) + off = (tgt : Int)) (h1 : x = y → AW Z tgt lv st I R) (h2 : ¬ x = y → AW Z (pc + 3) lv st I R) : AW Z pc lv (.int y :: .int x :: st) I R :=
  fun p e s m below meth c H locs ls C hR hS hv => lv_icmp_eq C.1 C.2.1 hd ht (fun q => h1 q p e s m below meth c H locs ls C hR hS hv) (fun q => h2 q p e s m below meth c H locs ls C hR hS hv)
theorem aw_if_ne {x : Int32} {off : Int} {tgt : Nat} (hd : decode (zc Z) pc = .ok (.ifCond .ne off, 3)) (ht : (pc : Int) + off = (tgt : Int)) (h1 : ¬ x = 0 → AW Z tgt lv st I R) (h2 : x = 0 → AW Z (pc + 3) lv st I R) : AW Z pc lv (.int x :: st) I R :=
  fun p e s m below meth c H locs ls C hR hS hv => lv_if_ne C.1 C.2.1 hd ht (fun q => h1 q p e s m below meth c H locs ls C hR hS hv) (fun q => h2 q p e s m below meth c H locs ls C hR hS hv)
theorem aw_icmp_ne {x y : Int32} {off : Int} {tgt : Nat} (hd : decode (zc Z) pc = .ok (.if_icmp .ne off, 3)) (ht : (pc : Int) + off = (tgt : Int)) (h1 : ¬ x = y → AW Z tgt lv st I R) (h2 : x = y → AW Z (pc + 3) lv st I R) : AW Z pc lv (.int y :: .int x :: st) I R :=
  fun p e s m below meth c H locs ls C hR hS hv => lv_icmp_ne C.1 C.2.1 hd ht (fun q => h1 q p e s m below meth c H locs ls C hR hS hv) (fun q => h2 q p e s m below meth c H locs ls C hR hS hv)
theorem aw_if_lt {x : Int32} {off : Int} {tgt : Nat} (hd : decode (zc Z) pc = .ok (.ifCond .lt off, 3)) (ht : (pc : Int) + off = (tgt : Int)) (h1 : x < 0 → AW Z tgt lv st I R) (h2 : ¬ x < 0 → AW Z (pc + 3) lv st I R) : AW Z pc lv (.int x :: st) I R :=
  fun p e s m below meth c H locs ls C hR hS hv => lv_if_lt C.1 C.2.1 hd ht (fun q => h1 q p e s m below meth c H locs ls C hR hS hv) (fun q => h2 q p e s m below meth c H locs ls C hR hS hv)
theorem aw_icmp_lt {x y : Int32} {off : Int} {tgt : Nat} (hd : decode (zc Z) pc = .ok (.if_icmp .lt off, 3)) (ht : (pc : Int) + off = (tgt : Int)) (h1 : x < y → AW Z tgt lv st I R) (h2 : ¬ x < y → AW Z (pc + 3) lv st I R) : AW Z pc lv (.int y :: .int x :: st) I R :=
  fun p e s m below meth c H locs ls C hR hS hv => lv_icmp_lt C.1 C.2.1 hd ht (fun q => h1 q p e s m below meth c H locs ls C hR hS hv) (fun q => h2 q p e s m below meth c H locs ls C hR hS hv)
theorem aw_if_ge {x : Int32} {off : Int} {tgt : Nat} (hd : decode (zc Z) pc = .ok (.ifCond .ge off, 3)) (ht : (pc : Int) + off = (tgt : Int)) (h1 : 0 ≤ x → AW Z tgt lv st I R) (h2 : ¬ 0 ≤ x → AW Z (pc + 3) lv st I R) : AW Z pc lv (.int x :: st) I R :=
  fun p e s m below meth c H locs ls C hR hS hv => lv_if_ge C.1 C.2.1 hd ht (fun q => h1 q p e s m below meth c H locs ls C hR hS hv) (fun q => h2 q p e s m below meth c H locs ls C hR hS hv)
theorem aw_icmp_ge {x y : Int32} {off : Int} {tgt : Nat} (hd : decode (zc Z) pc = .ok (.if_icmp .ge off, 3)) (ht : (pc : Int) + off = (tgt : Int)) (h1 : y ≤ x → AW Z tgt lv st I R) (h2 : ¬ y ≤ x → AW Z (pc + 3) lv st I R) : AW Z pc lv (.int y :: .int x :: st) I R :=
  fun p e s m below meth c H locs ls C hR hS hv => lv_icmp_ge C.1 C.2.1 hd ht (fun q => h1 q p e s m below meth c H locs ls C hR hS hv) (fun q => h2 q p e s m below meth c H locs ls C hR hS hv)
theorem aw_if_gt {x : Int32} {off : Int} {tgt : Nat} (hd : decode (zc Z) pc = .ok (.ifCond .gt off, 3)) (ht : (pc : Int) + off = (tgt : Int)) (h1 : 0 < x → AW Z tgt lv st I R) (h2 : ¬ 0 < x → AW Z (pc + 3) lv st I R) : AW Z pc lv (.int x :: st) I R :=
  fun p e s m below meth c H locs ls C hR hS hv => lv_if_gt C.1 C.2.1 hd ht (fun q => h1 q p e s m below meth c H locs ls C hR hS hv) (fun q => h2 q p e s m below meth c H locs ls C hR hS hv)
theorem aw_icmp_gt {x y : Int32} {off : Int} {tgt : Nat} (hd : decode (zc Z) pc = .ok (.if_icmp .gt off, 3)) (ht : (pc : Int) + off = (tgt : Int)) (h1 : y < x → AW Z tgt lv st I R) (h2 : ¬ y < x → AW Z (pc + 3) lv st I R) : AW Z pc lv (.int y :: .int x :: st) I R :=
  fun p e s m below meth c H locs ls C hR hS hv => lv_icmp_gt C.1 C.2.1 hd ht (fun q => h1 q p e s m below meth c H locs ls C hR hS hv) (fun q => h2 q p e s m below meth c H locs ls C hR hS hv)
theorem aw_if_le {x : Int32} {off : Int} {tgt : Nat} (hd : decode (zc Z) pc = .ok (.ifCond .le off, 3)) (ht : (pc : Int) + off = (tgt : Int)) (h1 : x ≤ 0 → AW Z tgt lv st I R) (h2 : ¬ x ≤ 0 → AW Z (pc + 3) lv st I R) : AW Z pc lv (.int x :: st) I R :=
  fun p e s m below meth c H locs ls C hR hS hv => lv_if_le C.1 C.2.1 hd ht (fun q => h1 q p e s m below meth c H locs ls C hR hS hv) (fun q => h2 q p e s m below meth c H locs ls C hR hS hv)
theorem aw_icmp_le {x y : Int32} {off : Int} {tgt : Nat} (hd : decode (zc Z) pc = .ok (.if_icmp .le off, 3)) (ht : (pc : Int) + off = (tgt : Int)) (h1 : x ≤ y → AW Z tgt lv st I R) (h2 : ¬ x ≤ y → AW Z (pc + 3) lv st I R) : AW Z pc lv (.int y :: .int x :: st) I R :=
  fun p e s m below meth c H locs ls C hR hS hv => lv_icmp_le C.1 C.2.1 hd ht (fun q => h1 q p e s m below meth c H locs ls C hR hS hv) (fun q => h2 q p e s m below meth c H locs ls C hR hS hv)
theorem aw_goto {off : Int} {tgt : Nat} (hd : decode (zc Z) pc = .ok (.goto off, 3)) (ht : (pc : Int) + off = (tgt : Int)) (h : AW Z tgt lv st I R) : AW Z pc lv st I R :=
  fun p e s m below meth c H locs ls C hR hS hv => lv_goto C.1 C.2.1 hd ht (h p e s m below meth c H locs ls C hR hS hv)
theorem aw_lcmp {x y : Int64} (hd : decode (zc Z) pc = .ok (.lcmp, 1)) (h : AW Z (pc + 1) lv (.int (lg_cmp x y) :: st) I R) : AW Z pc lv (.long y :: .long x :: st) I R :=
  fun p e s m below meth c H locs ls C hR hS hv => W.lcmp C.1 C.2.1 hd (h p e s m below meth c H locs ls C hR hS hv)
theorem aw_null (hd : decode (zc Z) pc = .ok (.aconst_null, 1)) (h : AW Z (pc + 1) lv (.null :: st) I R) : AW Z pc lv st I R :=
  fun p e s m below meth c H locs ls C hR hS hv => lv_null C.1 C.2.1 hd (h p e s m below meth c H locs ls C hR hS hv)
theorem aw_ifnull {x : Nat} {off : Int} (hd : decode (zc Z) pc = .ok (.ifnull off, 3)) (h : AW Z (pc + 3) lv st I R) : AW Z pc lv (.ref x :: st) I R :=
  fun p e s m below meth c H locs ls C hR hS hv => lv_ifnull C.1 C.2.1 hd (h p e s m below meth c H locs ls C hR hS hv)
theorem aw_ifnullN {off : Int} {tgt : Nat} (hd : decode (zc Z) pc = .ok (.ifnull off, 3)) (ht : (pc : Int) + off = (tgt : Int)) (h : AW Z tgt lv st I R) : AW Z pc lv (.null :: st) I R :=
  fun p e s m below meth c H locs ls C hR hS hv => lv_ifnullN C.1 C.2.1 hd ht (h p e s m below meth c H locs ls C hR hS hv)
theorem aw_ifnonnull {x : Nat} {off : Int} {tgt : Nat} (hd : decode (zc Z) pc = .ok (.ifnonnull off, 3)) (ht : (pc : Int) + off = (tgt : Int)) (h : AW Z tgt lv st I R) : AW Z pc lv (.ref x :: st) I R :=
  fun p e s m below meth c H locs ls C hR hS hv => lv_ifnonnull C.1 C.2.1 hd ht (h p e s m below meth c H locs ls C hR hS hv)
theorem aw_ifnonnullN {off : Int} (hd : decode (zc Z) pc = .ok (.ifnonnull off, 3)) (h : AW Z (pc + 3) lv st I R) : AW Z pc lv (.null :: st) I R :=
  fun p e s m below meth c H locs ls C hR hS hv => lv_ifnonnullN C.1 C.2.1 hd (h p e s m below meth c H locs ls C hR hS hv)
theorem aw_tableOut {dflt lo hi : Int} {offs : Array Int} {len : Nat} {x : Int32} {tgt : Nat} (hd : decode (zc Z) pc = .ok (.tableswitch dflt lo hi offs, len)) (hx : x.toInt < lo ∨ hi < x.toInt) (ht : (pc : Int) + dflt = (tgt : Int)) (h : AW Z tgt lv st I R) : AW Z pc lv (.int x :: st) I R :=
  fun p e s m below meth c H locs ls C hR hS hv => lv_tableOut C.1 C.2.1 hd hx ht (h p e s m below meth c H locs ls C hR hS hv)
theorem aw_tableIn {dflt lo hi : Int} {offs : Array Int} {len : Nat} {x : Int32} {off : Int} {tgt : Nat} (hd : decode (zc Z) pc = .ok (.tableswitch dflt lo hi offs, len)) (h1 : ¬ x.toInt < lo) (h2 : ¬ hi < x.toInt) (ho : offs[(x.toInt - lo).toNat]? = some off) (ht : (pc : Int) + off = (tgt : Int)) (h : AW Z tgt lv st I R) : AW Z pc lv (.int x :: st) I R :=
  fun p e s m below meth c H locs ls C hR hS hv => lv_tableIn C.1 C.2.1 hd h1 h2 ho ht (h p e s m below meth c H locs ls C hR hS hv)
/-! the heap -/
/-- a reference is good: its cell is there, and of the kind -/
def qok (R : qR) (a kd : Nat) : Prop := a < R.2.2.1 ∧ (R.2.1 a).1 = kd
/-- the references of the picture are good -/
def qWT (R : qR) : Prop := ∀ a j r, a < R.2.2.1 → R.1 a j = some r → qok R r (qfk (R.2.1 a).1 j)
theorem qWT.get (h : qWT R) {a j r kd kr : Nat} (ha : qok R a kd) (hp : R.1 a j = some r) (hk : qfk kd j = kr) : qok R r kr := by
  have := h a j r ha.1 hp
  rw [ha.2, hk] at this
  exact this
theorem qcell_o {G : qG} {a ci : Nat} (h : (R.2.1 a).1 = ci) (hc : ci < 9) : qcell G I R a = .inr (ci, qflds ci (I a) (fun j => qrf G.1 (R.1 a j))) := by
  unfold qcell
  rw [h]
  match ci, hc with
  | 0, _ => rfl
  | 1, _ => rfl
  | 2, _ => rfl
  | 3, _ => rfl
  | 4, _ => rfl
  | 5, _ => rfl
  | 6, _ => rfl
  | 7, _ => rfl
  | 8, _ => rfl
theorem qcell_i {G : qG} {a : Nat} (h : (R.2.1 a).1 = 9) : qcell G I R a = .inl (G.2.2.1, (R.2.1 a).2, .inl (I a)) := by
  simp only [qcell, h]
theorem qcell_z {G : qG} {a : Nat} (h : (R.2.1 a).1 = 10) : qcell G I R a = .inl (G.2.2.2.1, (R.2.1 a).2, .inl (I a)) := by
  simp only [qcell, h]
theorem qcell_t {G : qG} {a : Nat} (h : (R.2.1 a).1 = 11) : qcell G I R a = .inl (G.2.2.2.2, (R.2.1 a).2, .inr (.inr (.inr (.inr (fun j => qrf G.1 (R.1 a j)))))) := by
  simp only [qcell, h]
/-- writes -/
def qup (I : qI) (a j : Nat) (v : Int32) : qI := fun b => if b = a then upd (I a) j v else I b
def qpr (R : qR) (a j : Nat) (r : Option Nat) : qR := ((fun b => if b = a then va_up (R.1 a) j r else R.1 b), R.2)
def qzI (I : qI) (a : Nat) : qI := fun b => if b = a then (fun _ => 0) else I b
def qzR (R : qR) (kd len : Nat) : qR := ((fun b => if b = R.2.2.1 then (fun _ => none) else R.1 b), (fun b => if b = R.2.2.1 then (kd, len) else R.2.1 b), R.2.2.1 + 1, R.2.2.2 + len)
theorem qup_self (I : qI) (a j : Nat) (v : Int32) : qup I a j v a = upd (I a) j v := if_pos rfl
theorem qup_ne (I : qI) {a b : Nat} (j : Nat) (v : Int32) (h : b ≠ a) : qup I a j v b = I b := if_neg h
theorem qcell_up {G : qG} {a b j : Nat} {v : Int32} (h : b ≠ a) : qcell G (qup I a j v) R b = qcell G I R b := by
  unfold qcell
  rw [qup_ne I j v h]
theorem qcell_pr {G : qG} {a b j : Nat} {r : Option Nat} (h : b ≠ a) : qcell G I (qpr R a j r) b = qcell G I R b := by
  unfold qcell qpr
  simp only [if_neg h]
theorem qcell_z0 {G : qG} {b kd len : Nat} (h : b < R.2.2.1) : qcell G (qzI I R.2.2.1) (qzR R kd len) b = qcell G I R b := by
  unfold qcell qzI qzR
  simp only [if_neg (Nat.ne_of_lt h)]
/-- a field by its entry of the constant pool -/
def qFL (own : String) (index ci j : Nat) : Prop := ∃ (C : String) (T : u_T) (N : Nat) (ty : Nat → FieldType), vwCl[ci]? = some (C, T, N) ∧ j < N ∧ Cond.fieldLink own index (T j).1 (T j).2.1 (T j).2.2.1 ∈ wW ∧ (∀ w ∈ u_ws C T N, w ∈ wW) ∧ (∀ k, k < N → parseFieldDescriptor (T k).2.2.1 = some (ty k)) ∧ (∀ a, a < N → ∀ b, b < N → a ≠ b → (T a).2.1 ≠ (T b).2.1)
theorem aw_geti {own : String} {index ci j a : Nat} (hf : qFL own index ci j) (hc : ci < 9) (hg : ∀ i p, (qflds ci i p)[j]? = some (.int (i j))) (ha : qok R a ci) (ho : (zM Z).1.cls = own) (hd : decode (zc Z) pc = .ok (.getfield index, 3)) (h : AW Z (pc + 3) lv (.int (I a j) :: st) I R) : AW Z pc lv (.ref ((zG Z).1 + a) :: st) I R := by
  intro p e s m below meth c H locs ls C hR hS hv
  obtain ⟨C0, T, N, ty, h1, h2, h3, h4, h5, h6⟩ := hf
  subst ho
  have he := qw_at (zG Z) I R ha.1
  rw [qcell_o ha.2 hc] at he
  exact va_get C.1 C.2.1 C.2.2.2.2.2.1 h4 C.2.2.2.2.1 C.2.2.2.2.2.2.2.2.1.1 hR.1 a he h1 j h2 (C.2.2.2.2.2.1 _ h3) (fun _ q => q) (hg _ _) hd (h p e s m below meth c H locs ls C hR hS hv)
theorem aw_getr {own : String} {index ci j a r : Nat} (hf : qFL own index ci j) (hc : ci < 9) (hg : ∀ i p, (qflds ci i p)[j]? = some (va_rf (p j))) (ha : qok R a ci) (hr : R.1 a j = some r) (ho : (zM Z).1.cls = own) (hd : decode (zc Z) pc = .ok (.getfield index, 3)) (h : AW Z (pc + 3) lv (.ref ((zG Z).1 + r) :: st) I R) : AW Z pc lv (.ref ((zG Z).1 + a) :: st) I R := by
  intro p e s m below meth c H locs ls C hR hS hv
  obtain ⟨C0, T, N, ty, h1, h2, h3, h4, h5, h6⟩ := hf
  subst ho
  have he := qw_at (zG Z) I R ha.1
  rw [qcell_o ha.2 hc] at he
  have hq := hg (I a) (fun j => qrf (zG Z).1 (R.1 a j))
  simp only [hr, qrf, Option.map_some, va_rf] at hq
  exact va_get C.1 C.2.1 C.2.2.2.2.2.1 h4 C.2.2.2.2.1 C.2.2.2.2.2.2.2.2.1.1 hR.1 a he h1 j h2 (C.2.2.2.2.2.1 _ h3) (fun _ q => q) hq hd (h p e s m below meth c H locs ls C hR hS hv)
theorem aw_puti {own : String} {index ci j a : Nat} {v : Int32} (hf : qFL own index ci j) (hc : ci < 9) (hg : ∀ i p, qflds ci (upd i j v) p = (qflds ci i p).set j (.int v)) (hl : ∀ i p, j < (qflds ci i p).length) (hfin : ∀ C T N, vwCl[ci]? = some (C, T, N) → (T j).2.2.2 = false ∧ parseFieldDescriptor (T j).2.2.1 = some .int) (ha : qok R a ci) (ho : (zM Z).1.cls = own) (hd : decode (zc Z) pc = .ok (.putfield index, 3)) (h : AW Z (pc + 3) lv st (qup I a j v) R) : AW Z pc lv (.int v :: .ref ((zG Z).1 + a) :: st) I R := by
  intro p e s m below meth c H locs ls C hR hS hv
  obtain ⟨C0, T, N, ty, h1, h2, h3, h4, h5, h6⟩ := hf
  subst ho
  have he := qw_at (zG Z) I R ha.1
  rw [qcell_o ha.2 hc] at he
  refine va_put C.1 C.2.1 C.2.2.2.2.2.1 h4 ty h5 h6 C.2.2.2.2.1 C.2.2.2.2.2.2.2.2.1.1 hR.1 (qD _ I R) hS a he h1 j h2 (C.2.2.2.2.2.1 _ h3) (fun _ q => q) (hfin _ _ _ h1).1 (hfin _ _ _ h1).2 rfl rfl (hl _ _) hd (fun H1 locs1 hP1 hD1 hS1 => h p e s m below meth c H1 locs1 ls C ⟨?_, hR.2⟩ hS1 hv)
  rw [← hg, ← qup_self I a j v, ← qcell_o (G := zG Z) (I := qup I a j v) ha.2 hc, qw_set (zG Z) I (qup I a j v) R R rfl (fun b hb => qcell_up hb)] at hP1
  exact hP1
end AWR
end
section
section AWH
variable {Z : qZ} {pc : Nat} {lv : List (Nat × Value)} {st : List Value} {I : qI} {R : qR}
theorem qsize {p : Program} {e : Env} {s : State} {m : MethodId} {below : List Frame} {meth : Method} {c : Code} {H : Heap} {locs : List Loc} {Q : State → Prop} {g : JFrame} {w : Nat} (C : qCX Z p s m meth c) (hR : qRP (zG Z) I R H ∧ zN Z ≤ R.2.2.1 ∧ zS Z ≤ R.2.2.2) (hS : va_S (qA (zG Z)) s.heap H locs)
    (h : H.size = (zG Z).1 + R.2.2.1 → W p (zl Z) e (zR Z) s m (zA Z).toArray below meth c H locs (R.2.2.1 - zN Z) w Q g) : W p (zl Z) e (zR Z) s m (zA Z).toArray below meth c H locs (R.2.2.1 - zN Z) w Q g := by
  intro T hT X
  have h1 := X.heapSize
  rw [hT] at h1
  have h2 := C.2.2.2.2.2.2.2.2.2.1
  have h3 := hS.1
  have h4 := hR.2.1
  have h5 : (zG Z).1 + R.2.2.1 ≤ H.size := by
    by_cases hn : R.2.2.1 = 0
    · omega
    · have := (hR.1 (R.2.2.1 - 1) _ (qw_at (zG Z) I R (by omega))).lt
      have h6 : (zG Z).1 + (R.2.2.1 - 1) < H.size := this
      omega
  exact h (by omega) T hT X
theorem aw_iald {a : Nat} {i : Int32} (ha : qok R a 9) (hi : vp_in i (R.2.1 a).2) (hd : decode (zc Z) pc = .ok (.iaload, 1)) (h : AW Z (pc + 1) lv (.int (I a i.toNatClampNeg) :: st) I R) : AW Z pc lv (.int i :: .ref ((zG Z).1 + a) :: st) I R := by
  intro p e s m below meth c H locs ls C hR hS hv
  have he := qw_at (zG Z) I R ha.1
  rw [qcell_i ha.2] at he
  exact va_iald C.1 C.2.1 C.2.2.2.2.2.2.2.2.1.1 hR.1 a 0 he rfl hi hd (h p e s m below meth c H locs ls C hR hS hv)
theorem aw_zald {a : Nat} {i : Int32} (ha : qok R a 10) (hi : vp_in i (R.2.1 a).2) (hd : decode (zc Z) pc = .ok (.baload, 1)) (h : AW Z (pc + 1) lv (.int (I a i.toNatClampNeg) :: st) I R) : AW Z pc lv (.int i :: .ref ((zG Z).1 + a) :: st) I R := by
  intro p e s m below meth c H locs ls C hR hS hv
  have he := qw_at (zG Z) I R ha.1
  rw [qcell_z ha.2] at he
  exact va_zald C.1 C.2.1 C.2.2.2.2.2.2.2.2.1.1 hR.1 a 1 he rfl hi hd (h p e s m below meth c H locs ls C hR hS hv)
theorem aw_aald {a r : Nat} {i : Int32} (ha : qok R a 11) (hi : vp_in i (R.2.1 a).2) (hr : R.1 a i.toNatClampNeg = some r) (hd : decode (zc Z) pc = .ok (.aaload, 1)) (h : AW Z (pc + 1) lv (.ref ((zG Z).1 + r) :: st) I R) : AW Z pc lv (.int i :: .ref ((zG Z).1 + a) :: st) I R := by
  intro p e s m below meth c H locs ls C hR hS hv
  have he := qw_at (zG Z) I R ha.1
  rw [qcell_t ha.2] at he
  refine va_aldq C.1 C.2.1 C.2.2.2.2.2.2.2.2.1.1 hR.1 a 2 he rfl hi hd ?_
  rw [show va_rf (qrf (zG Z).1 (R.1 a i.toNatClampNeg)) = .ref ((zG Z).1 + r) by rw [hr]; rfl]
  exact h p e s m below meth c H locs ls C hR hS hv
theorem aw_alen {a kd : Nat} {v : Int32} (ha : qok R a kd) (hk : kd = 9 ∨ kd = 11) (hl : Int32.ofNat (R.2.1 a).2 = v) (hd : decode (zc Z) pc = .ok (.arraylength, 1)) (h : AW Z (pc + 1) lv (.int v :: st) I R) : AW Z pc lv (.ref ((zG Z).1 + a) :: st) I R := by
  intro p e s m below meth c H locs ls C hR hS hv
  have he := qw_at (zG Z) I R ha.1
  rcases hk with rfl | rfl
  · rw [qcell_i ha.2] at he
    exact va_alen C.1 C.2.1 C.2.2.2.2.2.2.2.2.1.1 hR.1 a 0 he rfl hl hd (h p e s m below meth c H locs ls C hR hS hv)
  · rw [qcell_t ha.2] at he
    exact va_alen C.1 C.2.1 C.2.2.2.2.2.2.2.2.1.1 hR.1 a 2 he rfl hl hd (h p e s m below meth c H locs ls C hR hS hv)
theorem aw_iast {a : Nat} {i x : Int32} (ha : qok R a 9) (hi : vp_in i (R.2.1 a).2) (hd : decode (zc Z) pc = .ok (.iastore, 1)) (h : AW Z (pc + 1) lv st (qup I a i.toNatClampNeg x) R) : AW Z pc lv (.int x :: .int i :: .ref ((zG Z).1 + a) :: st) I R := by
  intro p e s m below meth c H locs ls C hR hS hv
  have he := qw_at (zG Z) I R ha.1
  rw [qcell_i ha.2] at he
  refine va_iast C.1 C.2.1 C.2.2.2.2.2.2.2.2.1.1 hR.1 (qD _ I R) hS a 0 he rfl hi hd (fun H1 locs1 hP1 hD1 hS1 => h p e s m below meth c H1 locs1 ls C ⟨?_, hR.2⟩ hS1 hv)
  rw [← qup_self I a i.toNatClampNeg x, ← qcell_i (G := zG Z) (I := qup I a i.toNatClampNeg x) ha.2, qw_set (zG Z) I (qup I a i.toNatClampNeg x) R R rfl (fun b hb => qcell_up hb)] at hP1
  exact hP1
theorem aw_zast {a : Nat} {i x : Int32} (ha : qok R a 10) (hi : vp_in i (R.2.1 a).2) (hd : decode (zc Z) pc = .ok (.bastore, 1)) (h : AW Z (pc + 1) lv st (qup I a i.toNatClampNeg (vp_nar .boolean x)) R) : AW Z pc lv (.int x :: .int i :: .ref ((zG Z).1 + a) :: st) I R := by
  intro p e s m below meth c H locs ls C hR hS hv
  have he := qw_at (zG Z) I R ha.1
  rw [qcell_z ha.2] at he
  refine va_zast C.1 C.2.1 C.2.2.2.2.2.2.2.2.1.1 hR.1 (qD _ I R) hS a 1 he rfl hi hd (fun H1 locs1 hP1 hD1 hS1 => h p e s m below meth c H1 locs1 ls C ⟨?_, hR.2⟩ hS1 hv)
  rw [← qup_self I a i.toNatClampNeg (vp_nar .boolean x), ← qcell_z (G := zG Z) (I := qup I a i.toNatClampNeg (vp_nar .boolean x)) ha.2, qw_set (zG Z) I (qup I a i.toNatClampNeg (vp_nar .boolean x)) R R rfl (fun b hb => qcell_up hb)] at hP1
  exact hP1
theorem qpr_self (R : qR) (a j : Nat) (r : Option Nat) : (qpr R a j r).1 a = va_up (R.1 a) j r := if_pos rfl
theorem qrf_up (b : Nat) (f : Nat → Option Nat) (j r : Nat) : (fun x => qrf b (va_up f j (some r) x)) = va_up (fun x => qrf b (f x)) j (some (b + r)) := by
  funext x
  unfold va_up
  split <;> rfl
theorem aw_aast {a r : Nat} {i : Int32} (ha : qok R a 11) (hi : vp_in i (R.2.1 a).2) (hr : qok R r 5) (hd : decode (zc Z) pc = .ok (.aastore, 1)) (h : AW Z (pc + 1) lv st I (qpr R a i.toNatClampNeg (some r))) : AW Z pc lv (.ref ((zG Z).1 + r) :: .int i :: .ref ((zG Z).1 + a) :: st) I R := by
  intro p e s m below meth c H locs ls C hR hS hv
  have he := qw_at (zG Z) I R ha.1
  have he2 := qw_at (zG Z) I R hr.1
  rw [qcell_t ha.2] at he
  rw [qcell_o hr.2 (by decide)] at he2
  refine va_astq (r := (RX5, TX5, 6)) C.1 C.2.1 C.2.2.2.2.2.2.2.2.1.1 hR.1 (qD _ I R) hS a 2 r 5 he rfl he2 rfl hi hd (fun H1 locs1 hP1 hD1 hS1 => h p e s m below meth c H1 locs1 ls C ⟨?_, hR.2⟩ hS1 hv)
  rw [← qrf_up] at hP1
  have hc : qcell (zG Z) I (qpr R a i.toNatClampNeg (some r)) a = .inl ((zG Z).2.2.2.2, (R.2.1 a).2, .inr (.inr (.inr (.inr (fun x => qrf (zG Z).1 (va_up (R.1 a) i.toNatClampNeg (some r) x)))))) := by
    rw [qcell_t (R := qpr R a i.toNatClampNeg (some r)) ha.2, qpr_self]
    rfl
  rw [← hc, qw_set (zG Z) I I R (qpr R a i.toNatClampNeg (some r)) rfl (fun b hb => qcell_pr hb)] at hP1
  exact hP1
/-- a reference into a field -/
def qTY (ci j : Nat) (fin : Bool) : Prop := ∀ C T N, vwCl[ci]? = some (C, T, N) → (T j).2.2.2 = fin ∧ (T j).1 = C ∧ ∃ ty, parseFieldDescriptor (T j).2.2.1 = some ty ∧ ∀ x, narrow ty (.ref x) = .ref x ∧ fits ty (.ref x) = true
theorem aw_putr {own : String} {index ci j a r : Nat} (hf : qFL own index ci j) (hc : ci < 9) (hg : ∀ i p, qflds ci i (va_up p j (some ((zG Z).1 + r))) = (qflds ci i p).set j (.ref ((zG Z).1 + r))) (hl : ∀ i p, j < (qflds ci i p).length) (hfin : qTY ci j false) (ha : qok R a ci) (ho : (zM Z).1.cls = own) (hd : decode (zc Z) pc = .ok (.putfield index, 3)) (h : AW Z (pc + 3) lv st I (qpr R a j (some r))) : AW Z pc lv (.ref ((zG Z).1 + r) :: .ref ((zG Z).1 + a) :: st) I R := by
  intro p e s m below meth c H locs ls C hR hS hv
  obtain ⟨C0, T, N, ty, h1, h2, h3, h4, h5, h6⟩ := hf
  subst ho
  have he := qw_at (zG Z) I R ha.1
  rw [qcell_o ha.2 hc] at he
  obtain ⟨f1, f2, ty1, f3, f4⟩ := hfin _ _ _ h1
  refine va_put C.1 C.2.1 C.2.2.2.2.2.1 h4 ty h5 h6 C.2.2.2.2.1 C.2.2.2.2.2.2.2.2.1.1 hR.1 (qD _ I R) hS a he h1 j h2 (C.2.2.2.2.2.1 _ h3) (fun _ q => q) f1 f3 (f4 _).1 (f4 _).2 (hl _ _) hd (fun H1 locs1 hP1 hD1 hS1 => h p e s m below meth c H1 locs1 ls C ⟨?_, hR.2⟩ hS1 hv)
  have hcell : qcell (zG Z) I (qpr R a j (some r)) a = .inr (ci, qflds ci (I a) (va_up (fun x => qrf (zG Z).1 (R.1 a x)) j (some ((zG Z).1 + r)))) := by
    rw [qcell_o (R := qpr R a j (some r)) ha.2 hc, qpr_self, qrf_up]
  rw [← hg, ← hcell, qw_set (zG Z) I I R (qpr R a j (some r)) rfl (fun b hb => qcell_pr hb)] at hP1
  exact hP1
theorem aw_putF {own : String} {index ci j a r : Nat} (hf : qFL own index ci j) (hc : ci < 9) (hg : ∀ i p, qflds ci i (va_up p j (some ((zG Z).1 + r))) = (qflds ci i p).set j (.ref ((zG Z).1 + r))) (hl : ∀ i p, j < (qflds ci i p).length) (hfin : qTY ci j true) (hown : ∀ C T N, vwCl[ci]? = some (C, T, N) → C = own) (hin : (zM Z).1.name = "<init>") (ha : qok R a ci) (ho : (zM Z).1.cls = own) (hd : decode (zc Z) pc = .ok (.putfield index, 3)) (h : AW Z (pc + 3) lv st I (qpr R a j (some r))) : AW Z pc lv (.ref ((zG Z).1 + r) :: .ref ((zG Z).1 + a) :: st) I R := by
  intro p e s m below meth c H locs ls C hR hS hv
  obtain ⟨C0, T, N, ty, h1, h2, h3, h4, h5, h6⟩ := hf
  subst ho
  have he := qw_at (zG Z) I R ha.1
  rw [qcell_o ha.2 hc] at he
  obtain ⟨f1, f2, ty1, f3, f4⟩ := hfin _ _ _ h1
  refine va_putF C.1 C.2.1 C.2.2.2.2.2.1 h4 ty h5 h6 C.2.2.2.2.1 C.2.2.2.2.2.2.2.2.1.1 hR.1 (qD _ I R) hS a he h1 j h2 (C.2.2.2.2.2.1 _ h3) (fun _ q => q) f1 (C.2.2.2.2.2.2.2.1.trans hin) (f2.trans (hown _ _ _ h1)) f3 (f4 _).1 (f4 _).2 (hl _ _) hd (fun H1 locs1 hP1 hD1 hS1 => h p e s m below meth c H1 locs1 ls C ⟨?_, hR.2⟩ hS1 hv)
  have hcell : qcell (zG Z) I (qpr R a j (some r)) a = .inr (ci, qflds ci (I a) (va_up (fun x => qrf (zG Z).1 (R.1 a x)) j (some ((zG Z).1 + r)))) := by
    rw [qcell_o (R := qpr R a j (some r)) ha.2 hc, qpr_self, qrf_up]
  rw [← hg, ← hcell, qw_set (zG Z) I I R (qpr R a j (some r)) rfl (fun b hb => qcell_pr hb)] at hP1
  exact hP1
/-- the heap behind a cell that was pushed -/
theorem qpush {G : qG} {H H1 : Heap} {kd len : Nat} (hP : qRP G I R H) (hz : H.size = G.1 + R.2.2.1) (o1 : ∀ q, q < H.size → H1[q]? = H[q]?) (hc : va_at G.2.1 vwCl (G.1 + R.2.2.1, qcell G (qzI I R.2.2.1) (qzR R kd len) R.2.2.1) H1) : qRP G (qzI I R.2.2.1) (qzR R kd len) H1 := by
  unfold qRP
  rw [← qw_push G I (qzI I R.2.2.1) R (qzR R kd len) rfl (fun j hj => qcell_z0 hj)]
  refine (va_P.kept hP (fun k q hq => ?_)).app (fun k q hq => ?_)
  · obtain ⟨hl, rfl⟩ := qw_of hq
    exact o1 _ (by show G.1 + k < H.size; omega)
  · have hz : k < 1 := (List.getElem?_eq_some_iff.mp hq).1
    rw [show k = 0 by omega] at hq
    cases hq
    exact hc
theorem qS_push {A : Nat → Prop} {H0 H H1 : Heap} {locs : List Loc} (hS : va_S A H0 H locs) (z : H1.size = H.size + 1) (o1 : ∀ q, q < H.size → H1[q]? = H[q]?) : va_S A H0 H1 locs :=
  ⟨Nat.le_trans hS.1 (by omega), fun x h1 h2 => (o1 x (Nat.lt_of_lt_of_le h1 hS.1)).trans (hS.2.1 x h1 h2), hS.2.2⟩
theorem aw_new {own C : String} {T : u_T} {N ci index : Nat} (ty : Nat → FieldType) (hcl : vwCl[ci]? = some (C, T, N)) (hc : ci < 9) (hin : ∀ w ∈ u_ws C T N, w ∈ wW) (hty : ∀ k, k < N → parseFieldDescriptor (T k).2.2.1 = some (ty k)) (h1 : Cond.classLink own index C ∈ wW) (h2 : Cond.instantiable C N ∈ wW) (h3 : Cond.initialized C ∈ wW) (hfs : ∀ j, j < N → defaultValue (ty j) = vp_V (qflds ci (fun _ => 0) (fun _ => none)) j)
    (hr1 : R.2.2.1 + 1 - zN Z ≤ (zR Z).cells) (hr2 : R.2.2.2 + N - zS Z ≤ (zR Z).slots) (ho : (zM Z).1.cls = own) (hd : decode (zc Z) pc = .ok (.new index, 3)) (h : AW Z (pc + 3) lv (.ref ((zG Z).1 + R.2.2.1) :: st) (qzI I R.2.2.1) (qzR R ci N)) : AW Z pc lv st I R := by
  intro p e s m below meth c H locs ls C0 hR hS hv
  subst ho
  refine qsize C0 hR hS (fun hz => ?_)
  have hKn := C0.2.2.2.2.2.2.2.2.1.1.1 ci _ hcl
  have e1 : R.2.2.1 - zN Z + 1 = (qzR R ci N).2.2.1 - zN Z := by show _ = R.2.2.1 + 1 - zN Z; have := hR.2.1; omega
  have e2 : R.2.2.2 - zS Z + N = (qzR R ci N).2.2.2 - zS Z := by show _ = R.2.2.2 + N - zS Z; have := hR.2.2; omega
  refine W.newcK C0.1 C0.2.1 C0.2.2.2.2.1 (C0.2.2.2.2.2.1 _ h1) (C0.2.2.2.2.2.1 _ h2) (C0.2.2.2.2.2.1 _ h3) rfl hd (by rw [e1]; exact hr1) (by rw [e2]; exact hr2) hKn.2.1 hz fun H1 kC hkC g1 z1 o1 => ?_
  rw [e1, e2]
  refine h p e s m below meth c H1 locs ls C0 ⟨qpush hR.1 hz (fun q hq => o1 q (by omega)) ?_, ?_, ?_⟩ (qS_push hS (by omega) (fun q hq => o1 q (by omega))) hv
  · rw [qcell_o (ci := ci) (by simp [qzR]) hc]
    refine ⟨_, hcl, (u_born ty C0.2.2.2.2.2.1 hin hKn hkC g1 hty).to (fun j hj => ?_)⟩
    rw [hfs j hj]
    simp [qzI, qzR, qrf]
  · show zN Z ≤ R.2.2.1 + 1; have := hR.2.1; omega
  · show zS Z ≤ R.2.2.2 + N; have := hR.2.2; omega
theorem aw_newi {x : Int32} {N : Nat} (hw : Cond.arrayClass .int ∈ wW) (h0 : ¬ x < 0) (hN : x.toNatClampNeg = N) (hb : N ≤ 100000000) (hr1 : R.2.2.1 + 1 - zN Z ≤ (zR Z).cells) (hr2 : R.2.2.2 + N - zS Z ≤ (zR Z).slots) (hd : decode (zc Z) pc = .ok (.newarray .int, 2)) (h : AW Z (pc + 2) lv (.ref ((zG Z).1 + R.2.2.1) :: st) (qzI I R.2.2.1) (qzR R 9 N)) : AW Z pc lv (.int x :: st) I R := by
  intro p e s m below meth c H locs ls C0 hR hS hv
  refine qsize C0 hR hS (fun hz => ?_)
  have e1 : R.2.2.1 - zN Z + 1 = (qzR R 9 N).2.2.1 - zN Z := by show _ = R.2.2.1 + 1 - zN Z; have := hR.2.1; omega
  have e2 : R.2.2.2 - zS Z + N = (qzR R 9 N).2.2.2 - zS Z := by show _ = R.2.2.2 + N - zS Z; have := hR.2.2; omega
  refine va_newaK C0.1 C0.2.1 (atype := .int) (C0.2.2.2.2.2.1 _ hw) rfl hd rfl h0 hN (by show N * 4 ≤ _; omega) (by rw [e1]; exact hr1) (by rw [e2]; exact hr2) hz fun H1 cA g1 z1 o1 hAr hNm => ?_
  rw [e1, e2]
  have hcA : cA = (zG Z).2.2.1 := Option.some.inj (hNm.symm.trans (C0.2.2.2.2.2.2.2.2.1.1.2 0 _ rfl).2)
  subst hcA
  refine h p e s m below meth c H1 locs ls C0 ⟨qpush hR.1 hz (fun q hq => o1 q (by omega)) ?_, ?_, ?_⟩ (qS_push hS (by omega) (fun q hq => o1 q (by omega))) hv
  · rw [qcell_i (by simp [qzR])]
    show H1[(zG Z).1 + R.2.2.1]? = _
    rw [g1]
    simp [qzI, qzR, vp_cell_i, defaultValue, newarray.typeOf]
  · show zN Z ≤ R.2.2.1 + 1; have := hR.2.1; omega
  · show zS Z ≤ R.2.2.2 + N; have := hR.2.2; omega
theorem aw_newz {x : Int32} {N : Nat} (hw : Cond.arrayClass .boolean ∈ wW) (h0 : ¬ x < 0) (hN : x.toNatClampNeg = N) (hb : N ≤ 100000000) (hr1 : R.2.2.1 + 1 - zN Z ≤ (zR Z).cells) (hr2 : R.2.2.2 + N - zS Z ≤ (zR Z).slots) (hd : decode (zc Z) pc = .ok (.newarray .boolean, 2)) (h : AW Z (pc + 2) lv (.ref ((zG Z).1 + R.2.2.1) :: st) (qzI I R.2.2.1) (qzR R 10 N)) : AW Z pc lv (.int x :: st) I R := by
  intro p e s m below meth c H locs ls C0 hR hS hv
  refine qsize C0 hR hS (fun hz => ?_)
  have e1 : R.2.2.1 - zN Z + 1 = (qzR R 10 N).2.2.1 - zN Z := by show _ = R.2.2.1 + 1 - zN Z; have := hR.2.1; omega
  have e2 : R.2.2.2 - zS Z + N = (qzR R 10 N).2.2.2 - zS Z := by show _ = R.2.2.2 + N - zS Z; have := hR.2.2; omega
  refine va_newaK C0.1 C0.2.1 (atype := .boolean) (C0.2.2.2.2.2.1 _ hw) rfl hd rfl h0 hN (by show N * 1 ≤ _; omega) (by rw [e1]; exact hr1) (by rw [e2]; exact hr2) hz fun H1 cA g1 z1 o1 hAr hNm => ?_
  rw [e1, e2]
  have hcA : cA = (zG Z).2.2.2.1 := Option.some.inj (hNm.symm.trans (C0.2.2.2.2.2.2.2.2.1.1.2 1 _ rfl).2)
  subst hcA
  refine h p e s m below meth c H1 locs ls C0 ⟨qpush hR.1 hz (fun q hq => o1 q (by omega)) ?_, ?_, ?_⟩ (qS_push hS (by omega) (fun q hq => o1 q (by omega))) hv
  · rw [qcell_z (by simp [qzR])]
    show H1[(zG Z).1 + R.2.2.1]? = _
    rw [g1]
    simp [qzI, qzR, vp_cell_i, defaultValue, newarray.typeOf]
  · show zN Z ≤ R.2.2.1 + 1; have := hR.2.1; omega
  · show zS Z ≤ R.2.2.2 + N; have := hR.2.2; omega
theorem aw_newt {own : String} {index : Nat} {x : Int32} {N : Nat} (hw : Cond.classLink own index RX5 ∈ wW) (h0 : ¬ x < 0) (hN : x.toNatClampNeg = N) (hb : N ≤ 100000000) (hr1 : R.2.2.1 + 1 - zN Z ≤ (zR Z).cells) (hr2 : R.2.2.2 + N - zS Z ≤ (zR Z).slots) (ho : (zM Z).1.cls = own) (hd : decode (zc Z) pc = .ok (.anewarray index, 3)) (h : AW Z (pc + 3) lv (.ref ((zG Z).1 + R.2.2.1) :: st) (qzI I R.2.2.1) (qzR R 11 N)) : AW Z pc lv (.int x :: st) I R := by
  intro p e s m below meth c H locs ls C0 hR hS hv
  subst ho
  refine qsize C0 hR hS (fun hz => ?_)
  have e1 : R.2.2.1 - zN Z + 1 = (qzR R 11 N).2.2.1 - zN Z := by show _ = R.2.2.1 + 1 - zN Z; have := hR.2.1; omega
  have e2 : R.2.2.2 - zS Z + N = (qzR R 11 N).2.2.2 - zS Z := by show _ = R.2.2.2 + N - zS Z; have := hR.2.2; omega
  refine W.anew C0.1 C0.2.1 C0.2.2.2.2.1 (C0.2.2.2.2.2.1 _ hw) (va_AO.use C0.2.2.2.2.2.2.2.2.1.2.2) rfl hd rfl h0 (by rw [hN]; omega) (by rw [e1]; exact hr1) (by rw [hN, e2]; exact hr2) fun cA kA comp f1 f2 f3 f4 => ?_
  generalize hH1 : H.push ({ cls := cA, slots := Array.replicate x.toNatClampNeg .null, vm := .none } : Cell) = H1
  have z1 : H1.size = H.size + 1 := by rw [← hH1, Array.size_push]
  have g1 : H1[H.size]? = some (arrV cA x.toNatClampNeg (fun _ => .null)) := by rw [← hH1, Array.getElem?_push_size, ← arrV_new]
  have o1 : ∀ q : Nat, q < H.size → H1[q]? = H[q]? := fun q hq => by rw [← hH1, Array.getElem?_push, if_neg (Nat.ne_of_lt hq)]
  rw [hN, e1, e2, hz]
  obtain ⟨kA2, comp2, -, -, -, q4⟩ := (C0.2.2.2.2.2.2.2.2.1.1.2 2 _ rfl).2
  have hcA : cA = (zG Z).2.2.2.2 := Option.some.inj (f1.symm.trans q4)
  subst hcA
  refine h p e s m below meth c H1 locs ls C0 ⟨qpush hR.1 hz o1 ?_, ?_, ?_⟩ (qS_push hS z1 o1) hv
  · rw [qcell_t (by simp [qzR])]
    show H1[(zG Z).1 + R.2.2.1]? = _
    rw [← hz, g1, hN]
    simp [qzR, vp_cell_q, qrf, va_rf]
  · show zN Z ≤ R.2.2.1 + 1; have := hR.2.1; omega
  · show zS Z ≤ R.2.2.2 + N; have := hR.2.2; omega
theorem aw_objInit {own : String} {index a : Nat} (h1 : Cond.methodLink own index objectInit ∈ wW) (h2 : Cond.instanceMethod objectInit ∈ wW) (h3 : Cond.code objectInit ⟨#[0xb1]⟩ 1 none ∈ wW) (ho : (zM Z).1.cls = own) (hst : (st.map fun v => v.category).sum ≤ 8) (hf : 1 ≤ (zR Z).frames) (hlo : 20 ≤ (zR Z).locals) (hd : decode (zc Z) pc = .ok (.invokespecial index, 3)) (h : AW Z (pc + 3) lv st I R) : AW Z pc lv (.ref a :: st) I R := by
  intro p e s m below meth c H locs ls C hR hS hv
  subst ho
  refine W.objInit C.1 C.2.1 C.2.2.2.2.1 (C.2.2.2.2.2.1 _ h1) (C.2.2.2.2.2.1 _ h2) (C.2.2.2.2.2.1 _ h3) rfl (by rw [C.2.2.2.1]; exact hv.1) rfl hd hf (by show 2 * 0 + _ + 12 ≤ _; omega) ?_
  exact h p e s m below meth c H locs ls C hR hS hv
end AWH
end
section
/-! CONTRACTS AND CALLS -/
def qrm (d mc ms : Nat) : Room := { frames := d, cells := mc, slots := ms, locals := 64 * d }
def qQc (G : qG) (v1 : Option Value) (I1 : qI) (R1 : qR) : Array Value → State → Outcome → State → Prop := fun _ st oc t => oc = .returned v1 ∧ qRP G I1 R1 t.heap ∧ va_F (qA G) st t
def qPc (G : qG) (As : List Value) (I : qI) (R : qR) : Array Value → State → Prop := va_Pc As (fun U => U.heap.size = G.1 + R.2.2.1 ∧ qRP G I R U.heap ∧ qK G U)
/-- THE CONTRACT of a method M, at call depth d: with arguments As and heap picture (I, R) it returns v1 and leaves (I1, R1) -/
def qMt (l : Launch) (G : qG) (M : qM) (d : Nat) (As : List Value) (I : qI) (R : qR) (v1 : Option Value) (I1 : qI) (R1 : qR) : Prop :=
  (R.2.2.1 ≤ R1.2.2.1 ∧ R.2.2.2 ≤ R1.2.2.2) ∧ Met l M.1 (qws M) (qrm d (R1.2.2.1 - R.2.2.1) (R1.2.2.2 - R.2.2.2)) (qPc G As I R) (qQc G v1 I1 R1) (R1.2.2.1 - R.2.2.1) (R1.2.2.2 - R.2.2.2) (qA G)
abbrev Zm (l : Launch) (G : qG) (M : qM) (d : Nat) (As : List Value) (R : qR) (v1 : Option Value) (I1 : qI) (R1 : qR) : qZ :=
  (l, G, M, As, (fun _ => True), qrm d (R1.2.2.1 - R.2.2.1) (R1.2.2.2 - R.2.2.2), (R.2.2.1, R.2.2.2), fun below s => MQ below (qQc G v1 I1 R1) As.toArray s (R1.2.2.1 - R.2.2.1) (R1.2.2.2 - R.2.2.2) (qA G))
theorem qblind (G : qG) (As : List Value) (I : qI) (R : qR) : FrameBlind (qPc G As I R) := by
  intro a U g mk h
  obtain ⟨h1, h2, h3, h4⟩ := h
  exact ⟨h1, h2, h3, qK.same (u := U) (U := U.calling g mk a) rfl h4⟩
theorem qMt_of {l : Launch} {G : qG} {M : qM} {d : Nat} {As : List Value} {I : qI} {R : qR} {v1 : Option Value} {I1 : qI} {R1 : qR} (hp : plainName M.1.cls = true) (hlen : (lg_sl As).length ≤ M.2.2.1) (hle : R.2.2.1 ≤ R1.2.2.1 ∧ R.2.2.2 ≤ R1.2.2.2)
    (h : AW (Zm l G M d As R v1 I1 R1) 0 (lv_args 0 As) [] I R) : qMt l G M d As I R v1 I1 R1 := by
  refine ⟨hle, Met.ofW (cc := M.2.1) (maxL := M.2.2.1) (ret := M.2.2.2) hp rfl ?_⟩
  intro p e s m args below meth c s₁ B hml hv
  obtain ⟨rfl, hsz, hP, hK⟩ := hv
  have hts := atoms_spec (ws := qws M) B.pre
  have hl := lv_entry As (n := M.2.2.1) hlen
  rw [lg_entry_eq]
  have := h p e s m below meth c s.heap [] _ ⟨B.exec, B.bytes, B.returns, hml, findClass_of_methodNamed B.named, fun w hw => hts w (List.mem_cons_of_mem _ hw), B.notSynchronized, (name_of_methodNamed B.named B.method).1, hK, hsz, trivial⟩ ⟨hP, Nat.le_refl _, Nat.le_refl _⟩ va_S.rf hl
  rw [show R.2.2.1 - zN (Zm l G M d As R v1 I1 R1) = 0 from Nat.sub_self _, show R.2.2.2 - zS (Zm l G M d As R v1 I1 R1) = 0 from Nat.sub_self _] at this
  exact this
section AWC
variable {Z : qZ} {pc : Nat} {lv : List (Nat × Value)} {st st0 rest : List Value} {I : qI} {R : qR} {v1 : Option Value} {I1 : qI} {R1 : qR} {M : qM} {d : Nat} {As : List Value}
theorem aw_run {a : Array Value} (hle : R.2.2.1 ≤ R1.2.2.1 ∧ R.2.2.2 ≤ R1.2.2.2) (hrun : ∀ (p : Program) (e : Env) (s : State) (m : MethodId) (below : List Frame) (meth : Method) (c : Code) (H : Heap) (locs : List Loc) (ls : Array Slot), qCX Z p s m meth c → H.size = (zG Z).1 + R.2.2.1 → qRP (zG Z) I R H → zN Z ≤ R.2.2.1 → zS Z ≤ R.2.2.2 → lv_has ls (zn Z) lv →
      va_Run p (zl Z) e (zR Z) s m (zA Z).toArray below meth c H locs (R.2.2.1 - zN Z) (R.2.2.2 - zS Z) (R1.2.2.1 - R.2.2.1) (R1.2.2.2 - R.2.2.2) (F0 m pc ls st0) rest (qQc (zG Z) v1 I1 R1 a) (qA (zG Z)))
    (h : AW Z (pc + 3) lv (v1.toList ++ rest) I1 R1) : AW Z pc lv st0 I R := by
  intro p e s m below meth c H locs ls C hR hS hv
  refine qsize C hR hS (fun hz => ?_)
  intro T hT X
  obtain ⟨v, st₀, t, T', L, h0, X', hL, e1, e2, ⟨hv1, hP1, hz1, hk1⟩, stp⟩ := hrun p e s m below meth c H locs ls C hz hR.1 hR.2.1 hR.2.2 hv T hT X
  have hv2 : v = v1 := by injection hv1
  subst hv2
  rw [h0] at hz1 hk1
  have a1 : R.2.2.1 - zN Z + (R1.2.2.1 - R.2.2.1) = R1.2.2.1 - zN Z := by have := hR.2.1; omega
  have a2 : R.2.2.2 - zS Z + (R1.2.2.2 - R.2.2.2) = R1.2.2.2 - zS Z := by have := hR.2.2; omega
  rw [a1, a2] at X'
  have hS1 : va_S (qA (zG Z)) s.heap T'.heap (locs ++ L) := ⟨Nat.le_trans hS.1 (by rw [e1]; exact hz1), fun q g1 g2 => by rw [e1, hk1 q (Nat.lt_of_lt_of_le g1 hS.1) g2]; exact hS.2.1 q g1 g2, fun q hq => by
    rcases List.mem_append.mp hq with g | g
    · exact hS.2.2 q g
    · exact hL q g⟩
  obtain ⟨t2, b1, b2⟩ := h p e s m below meth c T'.heap (locs ++ L) ls C ⟨by rw [e1]; exact hP1, Nat.le_trans hR.2.1 hle.1, Nat.le_trans hR.2.2 hle.2⟩ hS1 hv T' rfl X'
  exact ⟨t2, stp t2 b1, b2⟩
/-- room for a callee -/
def qroom (Z : qZ) (M : qM) (d : Nat) (R1 : qR) : Prop := d + 1 ≤ (zR Z).frames ∧ 8 + (M.2.2.1 + 11) + 64 * d ≤ (zR Z).locals ∧ R1.2.2.1 - zN Z ≤ (zR Z).cells ∧ R1.2.2.2 - zS Z ≤ (zR Z).slots
theorem qroom_fits {M : qM} {d : Nat} (hr : qroom Z M d R1) (hle : R.2.2.1 ≤ R1.2.2.1 ∧ R.2.2.2 ≤ R1.2.2.2) (h1 : zN Z ≤ R.2.2.1) (h2 : zS Z ≤ R.2.2.2) : R.2.2.1 - zN Z + (R1.2.2.1 - R.2.2.1) ≤ (zR Z).cells ∧ R.2.2.2 - zS Z + (R1.2.2.2 - R.2.2.2) ≤ (zR Z).slots := by
  have := hr.2.2.1
  have := hr.2.2.2
  omega
/-- what a callee's name must be -/
def qnm (M : qM) (n : Nat) : Prop := M.1.cls ≠ "java/lang/invoke/MethodHandle" ∧ M.1.cls ≠ "java/lang/invoke/VarHandle" ∧ (parseMethodDescriptor M.1.desc).map (fun d => d.parameters.length) = some n
def qCV (own : String) (index n ci : Nat) (M : qM) : Prop := Cond.code M.1 M.2.1 M.2.2.1 M.2.2.2 ∈ wW ∧ Cond.initialized M.1.cls ∈ wW ∧ Cond.methodLink own index M.1 ∈ wW ∧ Cond.instanceMethod M.1 ∈ wW ∧ Cond.selects M.1.cls M.1 M.1 ∈ wW ∧ qnm M n ∧ ci < 9 ∧ ∃ T N, vwCl[ci]? = some (M.1.cls, T, N)
def qCS (own : String) (index n : Nat) (M : qM) : Prop := Cond.code M.1 M.2.1 M.2.2.1 M.2.2.2 ∈ wW ∧ Cond.initialized M.1.cls ∈ wW ∧ Cond.methodLink own index M.1 ∈ wW ∧ Cond.static M.1 ∈ wW ∧ qnm M n
def qCI (own : String) (index n : Nat) (M : qM) : Prop := Cond.code M.1 M.2.1 M.2.2.1 none ∈ wW ∧ Cond.initialized M.1.cls ∈ wW ∧ Cond.methodLink own index M.1 ∈ wW ∧ Cond.instanceMethod M.1 ∈ wW ∧ M.1.name = "<init>" ∧ qnm M n ∧ M.2.2.2 = none
def qCIN (own : String) (index n : Nat) (host : String) (M : qM) : Prop := Cond.code M.1 M.2.1 M.2.2.1 none ∈ wW ∧ Cond.initialized M.1.cls ∈ wW ∧ Cond.methodLinkNest own index M.1 host ∈ qNest ∧ Cond.instanceMethod M.1 ∈ wW ∧ M.1.name = "<init>" ∧ qnm M n ∧ M.2.2.2 = none
theorem aw_callV {own : String} {index n ci a : Nat} (hM : qMt (zl Z) (zG Z) M d (.ref ((zG Z).1 + a) :: As) I R v1 I1 R1) (hC : qCV own index n ci M) (hn : As.length = n) (hr : qroom Z M d R1) (ho : (zM Z).1.cls = own) (ha : qok R a ci) (hs : (rest.map fun v => v.category).sum ≤ 8) (hd : decode (zc Z) pc = .ok (.invokevirtual index, 3)) (hst : st0 = As.reverse ++ .ref ((zG Z).1 + a) :: rest)
    (h : AW Z (pc + 3) lv (v1.toList ++ rest) I1 R1) : AW Z pc lv st0 I R := by
  obtain ⟨c1, c2, c3, c4, c5, c6, c7, T, N, c8⟩ := hC
  subst ho hst
  refine aw_run (a := (Value.ref ((zG Z).1 + a) :: As).toArray) hM.1 (fun p e s m below meth c H locs ls C hz hP hn0 hs0 hl => ?_) h
  have he := qw_at (zG Z) I R ha.1
  rw [qcell_o ha.2 c7] at he
  have hts := C.2.2.2.2.2.1
  exact va_runV (cc := zc Z) (nL := zn Z) (n := n) (As := As) (C := M.1.cls) (bytes := M.2.1) (maxL := M.2.2.1) (ret := M.2.2.2) (ws := qws M) ⟨C.1, C.2.1, C.2.2.2.1, C.2.2.2.2.1, hts⟩ hM.2 ⟨callB_of n hts (qws_good c1) rfl rfl rfl (hts _ c2) (hts _ c3) c6 ⟨hr.1, hr.2.1⟩, hts _ c4, hts _ c5⟩
    ⟨qblind _ _ _ _, va_recv C.2.2.2.2.2.2.2.2.1.1 hP c8 he, fun U hU hW => ⟨rfl, by rw [hU]; exact hz, by rw [hU]; exact hP, C.2.2.2.2.2.2.2.2.1.moved hW⟩⟩ rfl hn hl.1 rfl (lv_room hs) hd (qroom_fits hr hM.1 hn0 hs0)
theorem aw_callS {own : String} {index n : Nat} (hM : qMt (zl Z) (zG Z) M d As I R v1 I1 R1) (hC : qCS own index n M) (hn : As.length = n) (hr : qroom Z M d R1) (ho : (zM Z).1.cls = own) (hs : (rest.map fun v => v.category).sum ≤ 8) (hd : decode (zc Z) pc = .ok (.invokestatic index, 3)) (hst : st0 = As.reverse ++ rest)
    (h : AW Z (pc + 3) lv (v1.toList ++ rest) I1 R1) : AW Z pc lv st0 I R := by
  obtain ⟨c1, c2, c3, c4, c6⟩ := hC
  subst ho hst
  refine aw_run (a := As.toArray) hM.1 (fun p e s m below meth c H locs ls C hz hP hn0 hs0 hl => ?_) h
  have hts := C.2.2.2.2.2.1
  exact va_runS (cc := zc Z) (nL := zn Z) (n := n) (As := As) (bytes := M.2.1) (maxL := M.2.2.1) (ret := M.2.2.2) (ws := qws M) ⟨C.1, C.2.1, C.2.2.2.1, C.2.2.2.2.1, hts⟩ hM.2 ⟨callB_of n hts (qws_good c1) rfl rfl rfl (hts _ c2) (hts _ c3) c6 ⟨hr.1, hr.2.1⟩, hts _ c4⟩
    ⟨qblind _ _ _ _, fun U hU hW => ⟨rfl, by rw [hU]; exact hz, by rw [hU]; exact hP, C.2.2.2.2.2.2.2.2.1.moved hW⟩⟩ rfl hn hl.1 rfl (lv_room hs) hd (qroom_fits hr hM.1 hn0 hs0)
theorem aw_callI {own : String} {index n a : Nat} (hM : qMt (zl Z) (zG Z) M d (.ref ((zG Z).1 + a) :: As) I R none I1 R1) (hC : qCI own index n M) (hn : As.length = n) (hr : qroom Z M d R1) (ho : (zM Z).1.cls = own) (hs : (rest.map fun v => v.category).sum ≤ 8) (hd : decode (zc Z) pc = .ok (.invokespecial index, 3)) (hst : st0 = As.reverse ++ .ref ((zG Z).1 + a) :: rest)
    (h : AW Z (pc + 3) lv rest I1 R1) : AW Z pc lv st0 I R := by
  obtain ⟨c1, c2, c3, c4, c5, c6, c7⟩ := hC
  obtain ⟨y, cc, mL, rt⟩ := M
  dsimp only at c1 c2 c3 c4 c5 c6 c7
  subst c7
  subst ho hst
  refine aw_run (v1 := none) (rest := rest) (a := (Value.ref ((zG Z).1 + a) :: As).toArray) hM.1 (fun p e s m below meth c H locs ls C hz hP hn0 hs0 hl => ?_) h
  have hts := C.2.2.2.2.2.1
  exact va_runI (cc := zc Z) (nL := zn Z) (n := n) (As := As) (bytes := cc) (maxL := mL) (ws := qws (y, cc, mL, none)) ⟨C.1, C.2.1, C.2.2.2.1, C.2.2.2.2.1, hts⟩ hM.2 ⟨callB_of n hts (qws_good (M := (y, cc, mL, none)) c1) rfl rfl rfl (hts _ c2) (hts _ c3) c6 ⟨hr.1, hr.2.1⟩, c5, hts _ c4⟩
    ⟨qblind _ _ _ _, fun U hU hW => ⟨rfl, by rw [hU]; exact hz, by rw [hU]; exact hP, C.2.2.2.2.2.2.2.2.1.moved hW⟩⟩ rfl hn hl.1 rfl (lv_room hs) hd (qroom_fits hr hM.1 hn0 hs0)
theorem aw_callIN {own host : String} {index n a : Nat} (hM : qMt (zl Z) (zG Z) M d (.ref ((zG Z).1 + a) :: As) I R none I1 R1) (hC : qCIN own index n host M) (hn : As.length = n) (hr : qroom Z M d R1) (ho : (zM Z).1.cls = own) (hs : (rest.map fun v => v.category).sum ≤ 8) (hd : decode (zc Z) pc = .ok (.invokespecial index, 3)) (hst : st0 = As.reverse ++ .ref ((zG Z).1 + a) :: rest)
    (h : AW Z (pc + 3) lv rest I1 R1) : AW Z pc lv st0 I R := by
  obtain ⟨c1, c2, c3, c4, c5, c6, c7⟩ := hC
  obtain ⟨y, cc, mL, rt⟩ := M
  dsimp only at c1 c2 c3 c4 c5 c6 c7
  subst c7
  subst ho hst
  refine aw_run (v1 := none) (rest := rest) (a := (Value.ref ((zG Z).1 + a) :: As).toArray) hM.1 (fun p e s m below meth c H locs ls C hz hP hn0 hs0 hl => ?_) h
  have hts := C.2.2.2.2.2.1
  exact va_runIN (cc := zc Z) (nL := zn Z) (n := n) (As := As) (bytes := cc) (maxL := mL) (ws := qws (y, cc, mL, none)) ⟨C.1, C.2.1, C.2.2.2.1, C.2.2.2.2.1, hts⟩ hM.2 ⟨va_cnB n hts (qws_good (M := (y, cc, mL, none)) c1) rfl rfl rfl (C.2.2.2.2.2.2.2.2.1.2.1 _ c3) (hts _ c2) c6 ⟨hr.1, hr.2.1⟩, c5, hts _ c4⟩
    ⟨qblind _ _ _ _, fun U hU hW => ⟨rfl, by rw [hU]; exact hz, by rw [hU]; exact hP, C.2.2.2.2.2.2.2.2.1.moved hW⟩⟩ rfl hn hl.1 rfl (lv_room hs) hd (qroom_fits hr hM.1 hn0 hs0)
end AWC
section AWE
variable {l : Launch} {G : qG} {M : qM} {d : Nat} {As : List Value} {R0 : qR} {v1 : Option Value} {I1 : qI} {R1 : qR} {pc : Nat} {lv : List (Nat × Value)} {I : qI} {R : qR}
theorem aw_iret {x : Int32} (hr : M.2.2.2 = some .int) (hd : decode M.2.1 pc = .ok (.ireturn, 1)) (h1 : v1 = some (.int x)) (h2 : I1 = I) (h3 : R1 = R) : AW (Zm l G M d As R0 v1 I1 R1) pc lv [.int x] I R := by
  subst h1 h2 h3
  intro p e s m below meth c H locs ls C hR hS hv
  have hlocks := C.2.2.2.2.2.2.1
  exact W.iret C.1 C.2.1 (C.2.2.1.trans hr) (fun t ht hW => ⟨rfl, by rw [ht]; exact hR.1, hS.F ht⟩) hS.2.2 hd
theorem aw_zret {x : Int32} (hr : M.2.2.2 = some .boolean) (hx : narrow .boolean (.int x) = .int x) (hd : decode M.2.1 pc = .ok (.ireturn, 1)) (h1 : v1 = some (.int x)) (h2 : I1 = I) (h3 : R1 = R) : AW (Zm l G M d As R0 v1 I1 R1) pc lv [.int x] I R := by
  subst h1 h2 h3
  intro p e s m below meth c H locs ls C hR hS hv
  have hlocks := C.2.2.2.2.2.2.1
  exact W.zret C.1 C.2.1 (C.2.2.1.trans hr) hx (fun t ht hW => ⟨rfl, by rw [ht]; exact hR.1, hS.F ht⟩) hS.2.2 hd
theorem aw_vret (hr : M.2.2.2 = none) (hd : decode M.2.1 pc = .ok (.return_, 1)) (h1 : v1 = none) (h2 : I1 = I) (h3 : R1 = R) : AW (Zm l G M d As R0 v1 I1 R1) pc lv [] I R := by
  subst h1 h2 h3
  intro p e s m below meth c H locs ls C hR hS hv
  have hlocks := C.2.2.2.2.2.2.1
  exact W.vret C.1 C.2.1 (C.2.2.1.trans hr) (fun t ht hW => ⟨rfl, by rw [ht]; exact hR.1, hS.F ht⟩) hS.2.2 hd
theorem aw_aret {v : Value} {t0 : String} (hr : M.2.2.2 = some (.object t0)) (hx : v = .null ∨ ∃ a, v = .ref a) (hd : decode M.2.1 pc = .ok (.areturn, 1)) (h1 : v1 = some v) (h2 : I1 = I) (h3 : R1 = R) : AW (Zm l G M d As R0 v1 I1 R1) pc lv [v] I R := by
  subst h1 h2 h3
  intro p e s m below meth c H locs ls C hR hS hv
  have hlocks := C.2.2.2.2.2.2.1
  exact W.aret C.1 C.2.1 (C.2.2.1.trans hr) (Or.inl ⟨_, rfl⟩) hx (fun t ht hW => ⟨rfl, by rw [ht]; exact hR.1, hS.F ht⟩) hS.2.2 hd
end AWE
section AWL
variable {Z : qZ} {pc : Nat} {lv : List (Nat × Value)} {st : List Value} {I : qI} {R : qR}
theorem aw_max {own : String} {index : Nat} {x y : Int32} (h1 : Cond.methodLink own index Lib.Math.max.name ∈ wW) (h2 : Cond.static Lib.Math.max.name ∈ wW) (h3 : Cond.initialized "java/lang/Math" ∈ wW) (h4 : Cond.code Lib.Math.max.name Lib.Math.max.code 2 (some .int) ∈ wW) (ho : (zM Z).1.cls = own) (hs : (st.map fun v => v.category).sum ≤ 8) (hf : 1 ≤ (zR Z).frames) (hlo : 64 ≤ (zR Z).locals) (hc : R.2.2.1 - zN Z ≤ (zR Z).cells) (hc2 : R.2.2.2 - zS Z ≤ (zR Z).slots) (hd : decode (zc Z) pc = .ok (.invokestatic index, 3))
    (h : AW Z (pc + 3) lv (.int (if x < y then y else x) :: st) I R) : AW Z pc lv (.int y :: .int x :: st) I R := by
  intro p e s m below meth c H locs ls C hR hS hv
  subst ho
  have hts := C.2.2.2.2.2.1
  exact va_mmax C.1 C.2.1 (C.2.2.2.1.trans hv.1.symm) C.2.2.2.2.1 (hts _ h1) (hts _ h2) (hts _ h3) (hts _ h4) hf (by omega) hc hc2 hd (h p e s m below meth c H locs ls C hR hS hv)
theorem aw_min {own : String} {index : Nat} {x y : Int32} (h1 : Cond.methodLink own index Lib.Math.min.name ∈ wW) (h2 : Cond.static Lib.Math.min.name ∈ wW) (h3 : Cond.initialized "java/lang/Math" ∈ wW) (h4 : Cond.code Lib.Math.min.name Lib.Math.min.code 2 (some .int) ∈ wW) (ho : (zM Z).1.cls = own) (hs : (st.map fun v => v.category).sum ≤ 8) (hf : 1 ≤ (zR Z).frames) (hlo : 64 ≤ (zR Z).locals) (hc : R.2.2.1 - zN Z ≤ (zR Z).cells) (hc2 : R.2.2.2 - zS Z ≤ (zR Z).slots) (hd : decode (zc Z) pc = .ok (.invokestatic index, 3))
    (h : AW Z (pc + 3) lv (.int (if y < x then y else x) :: st) I R) : AW Z pc lv (.int y :: .int x :: st) I R := by
  intro p e s m below meth c H locs ls C hR hS hv
  subst ho
  have hts := C.2.2.2.2.2.1
  exact va_mmin C.1 C.2.1 (C.2.2.2.1.trans hv.1.symm) C.2.2.2.2.1 (hts _ h1) (hts _ h2) (hts _ h3) (hts _ h4) hf (by omega) hc hc2 hd (h p e s m below meth c H locs ls C hR hS hv)
def qcp (I : qI) (a b sp dp n : Nat) : qI := fun x => if x = b then va_cpy (I a) (I b) sp dp n else I x
theorem aw_copy {own : String} {index a b : Nat} {sp dp x : Int32} (h1 : Cond.methodLink own index arraycopyName ∈ wW) (h2 : Cond.native arraycopyName ∈ wW) (h3 : Cond.static arraycopyName ∈ wW) (h4 : Cond.initialized "java/lang/System" ∈ wW) (ho : (zM Z).1.cls = own) (ha : qok R a 9) (hb : qok R b 9) (g1 : ¬ sp < 0) (g2 : ¬ dp < 0) (g3 : ¬ x < 0) (g4 : sp.toNatClampNeg + x.toNatClampNeg ≤ (R.2.1 a).2) (g5 : dp.toNatClampNeg + x.toNatClampNeg ≤ (R.2.1 b).2) (hs : (st.map fun v => v.category).sum ≤ 8) (hf : 1 ≤ (zR Z).frames) (hlo : 64 ≤ (zR Z).locals) (hd : decode (zc Z) pc = .ok (.invokestatic index, 3))
    (h : AW Z (pc + 3) lv st (qcp I a b sp.toNatClampNeg dp.toNatClampNeg x.toNatClampNeg) R) : AW Z pc lv (.int x :: .int dp :: .ref ((zG Z).1 + b) :: .int sp :: .ref ((zG Z).1 + a) :: st) I R := by
  intro p e s m below meth c H locs ls C hR hS hv
  subst ho
  have hts := C.2.2.2.2.2.1
  have he := qw_at (zG Z) I R ha.1
  rw [qcell_i ha.2] at he
  have he2 := qw_at (zG Z) I R hb.1
  rw [qcell_i hb.2] at he2
  refine va_copyi C.1 C.2.1 (C.2.2.2.1.trans hv.1.symm) C.2.2.2.2.1 (hts _ h1) (hts _ h2) (hts _ h3) (hts _ h4) C.2.2.2.2.2.2.2.2.1.1 hR.1 (qD _ I R) hS a b 0 0 he he2 rfl rfl rfl g1 g2 g3 g4 g5 (fun i _ => rfl) hf (by
    have : nativeFrameWords "java/lang/System" "arraycopy" 5 + 11 ≤ 56 := by decide +kernel
    omega) hd (fun H1 locs1 hP1 hD1 hS1 => h p e s m below meth c H1 locs1 ls C ⟨?_, hR.2⟩ hS1 hv)
  have hc : qcell (zG Z) (qcp I a b sp.toNatClampNeg dp.toNatClampNeg x.toNatClampNeg) R b = .inl ((zG Z).2.2.1, (R.2.1 b).2, .inl (va_cpy (I a) (I b) sp.toNatClampNeg dp.toNatClampNeg x.toNatClampNeg)) := by
    rw [qcell_i hb.2]
    simp [qcp]
  rw [← hc, qw_set (zG Z) I _ R R rfl (fun j hj => by unfold qcell qcp; rw [if_neg hj])] at hP1
  exact hP1
end AWL
end
section
/-! methods: name, code, locals, answer -/
def mX0_init : qM := (yX0_init, cX0_init, 1, none)
def mX0_arrange : qM := (yX0_arrange, cX0_arrange, 5, none)
def mX0_wouldBreach : qM := (yX0_wouldBreach, cX0_wouldBreach, 3, some .boolean)
def mX0_breachedBy : qM := (yX0_breachedBy, cX0_breachedBy, 5, some .int)
def mX0_fillFewest : qM := (yX0_fillFewest, cX0_fillFewest, 5, none)
def mX0_fewestWith : qM := (yX0_fewestWith, cX0_fewestWith, 3, some .int)
def mX0_setOrder : qM := (yX0_setOrder, cX0_setOrder, 4, none)
def mX0_firstBehind : qM := (yX0_firstBehind, cX0_firstBehind, 3, some .int)
def mX1_init : qM := (yX1_init, cX1_init, 1, none)
def mX1_clear : qM := (yX1_clear, cX1_clear, 1, none)
def mX1_give : qM := (yX1_give, cX1_give, 5, none)
def mX2_init : qM := (yX2_init, cX2_init, 1, none)
def mX2_search : qM := (yX2_search, cX2_search, 6, none)
def mX2_reach : qM := (yX2_reach, cX2_reach, 5, some .boolean)
def mX2_prepare : qM := (yX2_prepare, cX2_prepare, 6, none)
def mX2_readStops : qM := (yX2_readStops, cX2_readStops, 5, none)
def mX2_fillPair : qM := (yX2_fillPair, cX2_fillPair, 8, none)
def mX2_openKnown : qM := (yX2_openKnown, cX2_openKnown, 2, none)
def mX2_needOf : qM := (yX2_needOf, cX2_needOf, 2, some .int)
def mX2_keep : qM := (yX2_keep, cX2_keep, 3, none)
def mX2_placeOf : qM := (yX2_placeOf, cX2_placeOf, 3, some .int)
def mX2_leastNeed : qM := (yX2_leastNeed, cX2_leastNeed, 10, some .int)
def mX2_pairNeedAt : qM := (yX2_pairNeedAt, cX2_pairNeedAt, 4, some .int)
def mX2_nextStations : qM := (yX2_nextStations, cX2_nextStations, 5, some .int)
def mX2_passed : qM := (yX2_passed, cX2_passed, 5, some .int)
def mX3_init : qM := (yX3_init, cX3_init, 1, none)
def mX3_tell : qM := (yX3_tell, cX3_tell, 3, none)
def mX3_fewestFor : qM := (yX3_fewestFor, cX3_fewestFor, 5, some .int)
def mX3_unionOf : qM := (yX3_unionOf, cX3_unionOf, 4, some .int)
def mX3_lesser : qM := (yX3_lesser, cX3_lesser, 3, some .int)
def mX4_init : qM := (yX4_init, cX4_init, 2, none)
def mX4_make : qM := (yX4_make, cX4_make, 4, none)
def mX4_isMade : qM := (yX4_isMade, cX4_isMade, 1, some .boolean)
def mX4_rowCount : qM := (yX4_rowCount, cX4_rowCount, 1, some .int)
def mX4_columnCount : qM := (yX4_columnCount, cX4_columnCount, 1, some .int)
def mX4_hasRow : qM := (yX4_hasRow, cX4_hasRow, 2, some .boolean)
def mX4_hasColumn : qM := (yX4_hasColumn, cX4_hasColumn, 2, some .boolean)
def mX4_stationOf : qM := (yX4_stationOf, cX4_stationOf, 2, some .int)
def mX4_trainOf : qM := (yX4_trainOf, cX4_trainOf, 2, some .int)
def mX4_read : qM := (yX4_read, cX4_read, 6, some .int)
def mX4_countBreaches : qM := (yX4_countBreaches, cX4_countBreaches, 1, some .int)
def mX4_countKnots : qM := (yX4_countKnots, cX4_countKnots, 1, some .int)
def mX4_isBreach : qM := (yX4_isBreach, cX4_isBreach, 3, some .boolean)
def mX4_laneCount : qM := (yX4_laneCount, cX4_laneCount, 1, some .int)
def mX4_laneOf : qM := (yX4_laneOf, cX4_laneOf, 2, some .int)
def mX4_takeMembers : qM := (yX4_takeMembers, cX4_takeMembers, 4, none)
def mX4_placeStops : qM := (yX4_placeStops, cX4_placeStops, 4, none)
def mX4_firstRow : qM := (yX4_firstRow, cX4_firstRow, 2, some .int)
def mX4_lastRow : qM := (yX4_lastRow, cX4_lastRow, 2, some .int)
def mX4_planLanes : qM := (yX4_planLanes, cX4_planLanes, 3, none)
def mX5_init : qM := (yX5_init, cX5_init, 1, none)
def mX5_takes : qM := (yX5_takes, cX5_takes, 4, some .boolean)
def mX5_add : qM := (yX5_add, cX5_add, 4, none)
def mX5_dropLast : qM := (yX5_dropLast, cX5_dropLast, 1, none)
def mX5_staysInDay : qM := (yX5_staysInDay, cX5_staysInDay, 6, some .boolean)
def mX5_move : qM := (yX5_move, cX5_move, 3, none)
def mX5_runsOn : qM := (yX5_runsOn, cX5_runsOn, 2, some .boolean)
def mX5_read : qM := (yX5_read, cX5_read, 3, some .int)
def mX5_leaves : qM := (yX5_leaves, cX5_leaves, 2, some .int)
def mX5_isAheadSomewhere : qM := (yX5_isAheadSomewhere, cX5_isAheadSomewhere, 4, some .boolean)
def mX5_copy : qM := (yX5_copy, cX5_copy, 2, none)
def mX6_init : qM := (yX6_init, cX6_init, 1, none)
def mX6_setOut : qM := (yX6_setOut, cX6_setOut, 5, none)
def mX6_findBest : qM := (yX6_findBest, cX6_findBest, 4, some .boolean)
def mX6_read : qM := (yX6_read, cX6_read, 3, some .int)
def mX6_findDepartures : qM := (yX6_findDepartures, cX6_findDepartures, 6, some .int)
def mX6_departureAt : qM := (yX6_departureAt, cX6_departureAt, 2, some .int)
def mX6_readLeg : qM := (yX6_readLeg, cX6_readLeg, 4, some .int)
def mX6_soonestAt : qM := (yX6_soonestAt, cX6_soonestAt, 7, some .int)
def mX6_ride : qM := (yX6_ride, cX6_ride, 6, some .boolean)
def mX6_countLegs : qM := (yX6_countLegs, cX6_countLegs, 5, none)
def mX6_lastBoardTo : qM := (yX6_lastBoardTo, cX6_lastBoardTo, 4, some .int)
def mX6_lastBoardBefore : qM := (yX6_lastBoardBefore, cX6_lastBoardBefore, 5, some .int)
def mX6_canChange : qM := (yX6_canChange, cX6_canChange, 6, some .boolean)
def mX6_firstTrain : qM := (yX6_firstTrain, cX6_firstTrain, 5, some .int)
def mX6_chooseTrains : qM := (yX6_chooseTrains, cX6_chooseTrains, 4, none)
def mX6_chooseTrain : qM := (yX6_chooseTrain, cX6_chooseTrain, 5, none)
def mX6_firstBoard : qM := (yX6_firstBoard, cX6_firstBoard, 8, some .int)
def mX6_chooseStations : qM := (yX6_chooseStations, cX6_chooseStations, 5, none)
def mX6_limitBefore : qM := (yX6_limitBefore, cX6_limitBefore, 5, some .int)
def mX6_leastChange : qM := (yX6_leastChange, cX6_leastChange, 5, some .int)
def mX6_collectMinutes : qM := (yX6_collectMinutes, cX6_collectMinutes, 4, none)
def mX6_insertMinute : qM := (yX6_insertMinute, cX6_insertMinute, 3, none)
def mX7_init : qM := (yX7_init, cX7_init, 2, none)
def mX7_train : qM := (yX7_train, cX7_train, 2, some .int)
def mX7_stop : qM := (yX7_stop, cX7_stop, 6, some .int)
def mX7_days : qM := (yX7_days, cX7_days, 4, some .boolean)
def mX7_cut : qM := (yX7_cut, cX7_cut, 3, some .boolean)
def mX7_shift : qM := (yX7_shift, cX7_shift, 4, some .boolean)
def mX7_sign : qM := (yX7_sign, cX7_sign, 3, some .boolean)
def mX7_change : qM := (yX7_change, cX7_change, 2, some .boolean)
def mX7_about : qM := (yX7_about, cX7_about, 3, some .int)
def mX7_signs : qM := (yX7_signs, cX7_signs, 5, some .int)
def mX7_table : qM := (yX7_table, cX7_table, 2, some .int)
def mX7_row : qM := (yX7_row, cX7_row, 2, some .int)
def mX7_column : qM := (yX7_column, cX7_column, 2, some .int)
def mX7_cell : qM := (yX7_cell, cX7_cell, 4, some .int)
def mX7_breaches : qM := (yX7_breaches, cX7_breaches, 2, some .int)
def mX7_breach : qM := (yX7_breach, cX7_breach, 3, some .int)
def mX7_lanes : qM := (yX7_lanes, cX7_lanes, 1, some .int)
def mX7_lane : qM := (yX7_lane, cX7_lane, 2, some .int)
def mX7_way : qM := (yX7_way, cX7_way, 6, some .int)
def mX7_departures : qM := (yX7_departures, cX7_departures, 4, some .int)
def mX7_departure : qM := (yX7_departure, cX7_departure, 6, some .int)
def mX7_areDays : qM := (yX7_areDays, cX7_areDays, 1, some .boolean)
def mX7_isStation : qM := (yX7_isStation, cX7_isStation, 1, some .boolean)
def mX7_canTravel : qM := (yX7_canTravel, cX7_canTravel, 3, some .boolean)
def mX7_trainOf : qM := (yX7_trainOf, cX7_trainOf, 2, some (.object "TrainBook$Train"))
def mX7_aboutBook : qM := (yX7_aboutBook, cX7_aboutBook, 2, some .int)
def mX7_canBeTable : qM := (yX7_canBeTable, cX7_canBeTable, 3, some .boolean)
def mX8_init : qM := (yX8_init, cX8_init, 1, none)
def mX8_isTrain : qM := (yX8_isTrain, cX8_isTrain, 2, some .boolean)
def mX8_isStation : qM := (yX8_isStation, cX8_isStation, 2, some .boolean)
def mX8_isMinute : qM := (yX8_isMinute, cX8_isMinute, 2, some .boolean)
def mX8_isDays : qM := (yX8_isDays, cX8_isDays, 2, some .boolean)
def mX8_train : qM := (yX8_train, cX8_train, 2, some .int)
def mX8_stopAt : qM := (yX8_stopAt, cX8_stopAt, 4, some .int)
def mX8_stop : qM := (yX8_stop, cX8_stop, 6, some .int)
def mX8_days : qM := (yX8_days, cX8_days, 3, some .boolean)
def mX8_cut : qM := (yX8_cut, cX8_cut, 2, some .boolean)
def mX8_shift : qM := (yX8_shift, cX8_shift, 4, some .boolean)
def mX8_sign : qM := (yX8_sign, cX8_sign, 3, some .boolean)
def mX8_change : qM := (yX8_change, cX8_change, 2, some .boolean)
def mX8_about : qM := (yX8_about, cX8_about, 5, some .int)
def mX8_ones : qM := (yX8_ones, cX8_ones, 4, some .int)
def mX8_signs : qM := (yX8_signs, cX8_signs, 9, some .int)
def mX8_digit : qM := (yX8_digit, cX8_digit, 3, some .int)
def mX8_behind : qM := (yX8_behind, cX8_behind, 6, some .int)
def mX8_isPlace : qM := (yX8_isPlace, cX8_isPlace, 3, some .boolean)
def mX8_findRows : qM := (yX8_findRows, cX8_findRows, 6, none)
def mX8_leaves : qM := (yX8_leaves, cX8_leaves, 3, some .int)
def mX8_isBreach : qM := (yX8_isBreach, cX8_isBreach, 5, some .boolean)
def mX8_breachesOf : qM := (yX8_breachesOf, cX8_breachesOf, 5, some .int)
def mX8_goesOn : qM := (yX8_goesOn, cX8_goesOn, 5, some .boolean)
def mX8_swap : qM := (yX8_swap, cX8_swap, 4, none)
def mX8_findColumns : qM := (yX8_findColumns, cX8_findColumns, 5, none)
def mX8_first : qM := (yX8_first, cX8_first, 2, some .int)
def mX8_last : qM := (yX8_last, cX8_last, 2, some .int)
def mX8_findLanes : qM := (yX8_findLanes, cX8_findLanes, 4, none)
def mX8_isFree : qM := (yX8_isFree, cX8_isFree, 4, some .boolean)
def mX8_table : qM := (yX8_table, cX8_table, 4, some .int)
def mX8_row : qM := (yX8_row, cX8_row, 2, some .int)
def mX8_isColumn : qM := (yX8_isColumn, cX8_isColumn, 2, some .boolean)
def mX8_column : qM := (yX8_column, cX8_column, 2, some .int)
def mX8_cell : qM := (yX8_cell, cX8_cell, 6, some .int)
def mX8_breaches : qM := (yX8_breaches, cX8_breaches, 5, some .int)
def mX8_breach : qM := (yX8_breach, cX8_breach, 3, some .int)
def mX8_lanes : qM := (yX8_lanes, cX8_lanes, 1, some .int)
def mX8_lane : qM := (yX8_lane, cX8_lane, 2, some .int)
def mX8_runs : qM := (yX8_runs, cX8_runs, 3, some .boolean)
def mX8_canChange : qM := (yX8_canChange, cX8_canChange, 3, some .boolean)
def mX8_isBoarded : qM := (yX8_isBoarded, cX8_isBoarded, 7, some .boolean)
def mX8_soonest : qM := (yX8_soonest, cX8_soonest, 10, some .int)
def mX8_findRest : qM := (yX8_findRest, cX8_findRest, 7, none)
def mX8_canGoOn : qM := (yX8_canGoOn, cX8_canGoOn, 7, some .boolean)
def mX8_canBoard : qM := (yX8_canBoard, cX8_canBoard, 6, some .boolean)
def mX8_leavesAt : qM := (yX8_leavesAt, cX8_leavesAt, 10, some .boolean)
def mX8_firstTrain : qM := (yX8_firstTrain, cX8_firstTrain, 7, some .int)
def mX8_finds : qM := (yX8_finds, cX8_finds, 11, some .boolean)
def mX8_boardOf : qM := (yX8_boardOf, cX8_boardOf, 8, some .int)
def mX8_restGoes : qM := (yX8_restGoes, cX8_restGoes, 11, some .boolean)
def mX8_way : qM := (yX8_way, cX8_way, 8, some .int)
def mX8_findDepartures : qM := (yX8_findDepartures, cX8_findDepartures, 7, none)
def mX8_isGone : qM := (yX8_isGone, cX8_isGone, 6, some .boolean)
def mX8_canDepart : qM := (yX8_canDepart, cX8_canDepart, 4, some .boolean)
def mX8_departures : qM := (yX8_departures, cX8_departures, 4, some .int)
def mX8_departure : qM := (yX8_departure, cX8_departure, 5, some .int)
def mJ6_bitCount_0f7a4 : qM := (yJ6_bitCount_0f7a4, cJ6_bitCount_0f7a4, 1, some .int)
def mJ9_max_7cf53 : qM := (yJ9_max_7cf53, cJ9_max_7cf53, 2, some .int)
def mJ9_min_7cf53 : qM := (yJ9_min_7cf53, cJ9_min_7cf53, 2, some .int)
def mJ7_fill_53178 : qM := (yJ7_fill_53178, cJ7_fill_53178, 4, none)
/-! fields -/
set_option maxRecDepth 20000 in
theorem in_X0 : ∀ w ∈ u_ws RX0 TX0 6, w ∈ wW := by
  intro w hw
  obtain ⟨k, hk, rfl⟩ := List.mem_map.mp hw
  have hk := List.mem_range.mp hk
  match k, hk with
  | 0, _ => exact wW_at 171 (by rfl) (by rfl)
  | 1, _ => exact wW_at 173 (by rfl) (by rfl)
  | 2, _ => exact wW_at 175 (by rfl) (by rfl)
  | 3, _ => exact wW_at 177 (by rfl) (by rfl)
  | 4, _ => exact wW_at 179 (by rfl) (by rfl)
  | 5, _ => exact wW_at 181 (by rfl) (by rfl)
theorem fg_X0_0 (i : Nat → Int32) (p : Nat → Option Nat) : (qflds 0 i p)[0]? = some (va_rf (p 0)) := rfl
theorem fs_X0_0 (a : Nat) (i : Nat → Int32) (p : Nat → Option Nat) : qflds 0 i (va_up p 0 (some a)) = (qflds 0 i p).set 0 (.ref a) := rfl
theorem ft_X0_0 : qTY 0 0 true := by
  intro C T N h
  cases h
  exact ⟨rfl, rfl, .array .int, by decide +kernel, fun x => ⟨rfl, rfl⟩⟩
theorem fn_X0_0 (i : Nat → Int32) (p : Nat → Option Nat) : 0 < (qflds 0 i p).length := by show 0 < 6; decide
theorem fg_X0_1 (i : Nat → Int32) (p : Nat → Option Nat) : (qflds 0 i p)[1]? = some (.int (i 1)) := rfl
theorem fs_X0_1 (v : Int32) (i : Nat → Int32) (p : Nat → Option Nat) : qflds 0 (upd i 1 v) p = (qflds 0 i p).set 1 (.int v) := rfl
theorem ft_X0_1 (C : String) (T : u_T) (N : Nat) (h : vwCl[0]? = some (C, T, N)) : (T 1).2.2.2 = false ∧ parseFieldDescriptor (T 1).2.2.1 = some .int := by cases h; exact ⟨rfl, by decide +kernel⟩
theorem fn_X0_1 (i : Nat → Int32) (p : Nat → Option Nat) : 1 < (qflds 0 i p).length := by show 1 < 6; decide
theorem fg_X0_2 (i : Nat → Int32) (p : Nat → Option Nat) : (qflds 0 i p)[2]? = some (.int (i 2)) := rfl
theorem fs_X0_2 (v : Int32) (i : Nat → Int32) (p : Nat → Option Nat) : qflds 0 (upd i 2 v) p = (qflds 0 i p).set 2 (.int v) := rfl
theorem ft_X0_2 (C : String) (T : u_T) (N : Nat) (h : vwCl[0]? = some (C, T, N)) : (T 2).2.2.2 = false ∧ parseFieldDescriptor (T 2).2.2.1 = some .int := by cases h; exact ⟨rfl, by decide +kernel⟩
theorem fn_X0_2 (i : Nat → Int32) (p : Nat → Option Nat) : 2 < (qflds 0 i p).length := by show 2 < 6; decide
theorem fg_X0_3 (i : Nat → Int32) (p : Nat → Option Nat) : (qflds 0 i p)[3]? = some (.int (i 3)) := rfl
theorem fs_X0_3 (v : Int32) (i : Nat → Int32) (p : Nat → Option Nat) : qflds 0 (upd i 3 v) p = (qflds 0 i p).set 3 (.int v) := rfl
theorem ft_X0_3 (C : String) (T : u_T) (N : Nat) (h : vwCl[0]? = some (C, T, N)) : (T 3).2.2.2 = false ∧ parseFieldDescriptor (T 3).2.2.1 = some .int := by cases h; exact ⟨rfl, by decide +kernel⟩
theorem fn_X0_3 (i : Nat → Int32) (p : Nat → Option Nat) : 3 < (qflds 0 i p).length := by show 3 < 6; decide
theorem fg_X0_4 (i : Nat → Int32) (p : Nat → Option Nat) : (qflds 0 i p)[4]? = some (va_rf (p 4)) := rfl
theorem fs_X0_4 (a : Nat) (i : Nat → Int32) (p : Nat → Option Nat) : qflds 0 i (va_up p 4 (some a)) = (qflds 0 i p).set 4 (.ref a) := rfl
theorem ft_X0_4 : qTY 0 4 true := by
  intro C T N h
  cases h
  exact ⟨rfl, rfl, .array .int, by decide +kernel, fun x => ⟨rfl, rfl⟩⟩
theorem fn_X0_4 (i : Nat → Int32) (p : Nat → Option Nat) : 4 < (qflds 0 i p).length := by show 4 < 6; decide
theorem fg_X0_5 (i : Nat → Int32) (p : Nat → Option Nat) : (qflds 0 i p)[5]? = some (va_rf (p 5)) := rfl
theorem fs_X0_5 (a : Nat) (i : Nat → Int32) (p : Nat → Option Nat) : qflds 0 i (va_up p 5 (some a)) = (qflds 0 i p).set 5 (.ref a) := rfl
theorem ft_X0_5 : qTY 0 5 true := by
  intro C T N h
  cases h
  exact ⟨rfl, rfl, .array .int, by decide +kernel, fun x => ⟨rfl, rfl⟩⟩
theorem fn_X0_5 (i : Nat → Int32) (p : Nat → Option Nat) : 5 < (qflds 0 i p).length := by show 5 < 6; decide
set_option maxRecDepth 20000 in
theorem in_X1 : ∀ w ∈ u_ws RX1 TX1 3, w ∈ wW := by
  intro w hw
  obtain ⟨k, hk, rfl⟩ := List.mem_map.mp hw
  have hk := List.mem_range.mp hk
  match k, hk with
  | 0, _ => exact wW_at 195 (by rfl) (by rfl)
  | 1, _ => exact wW_at 197 (by rfl) (by rfl)
  | 2, _ => exact wW_at 199 (by rfl) (by rfl)
theorem fg_X1_0 (i : Nat → Int32) (p : Nat → Option Nat) : (qflds 1 i p)[0]? = some (.int (i 0)) := rfl
theorem fs_X1_0 (v : Int32) (i : Nat → Int32) (p : Nat → Option Nat) : qflds 1 (upd i 0 v) p = (qflds 1 i p).set 0 (.int v) := rfl
theorem ft_X1_0 (C : String) (T : u_T) (N : Nat) (h : vwCl[1]? = some (C, T, N)) : (T 0).2.2.2 = false ∧ parseFieldDescriptor (T 0).2.2.1 = some .int := by cases h; exact ⟨rfl, by decide +kernel⟩
theorem fn_X1_0 (i : Nat → Int32) (p : Nat → Option Nat) : 0 < (qflds 1 i p).length := by show 0 < 3; decide
theorem fg_X1_1 (i : Nat → Int32) (p : Nat → Option Nat) : (qflds 1 i p)[1]? = some (va_rf (p 1)) := rfl
theorem fs_X1_1 (a : Nat) (i : Nat → Int32) (p : Nat → Option Nat) : qflds 1 i (va_up p 1 (some a)) = (qflds 1 i p).set 1 (.ref a) := rfl
theorem ft_X1_1 : qTY 1 1 true := by
  intro C T N h
  cases h
  exact ⟨rfl, rfl, .array .int, by decide +kernel, fun x => ⟨rfl, rfl⟩⟩
theorem fn_X1_1 (i : Nat → Int32) (p : Nat → Option Nat) : 1 < (qflds 1 i p).length := by show 1 < 3; decide
theorem fg_X1_2 (i : Nat → Int32) (p : Nat → Option Nat) : (qflds 1 i p)[2]? = some (va_rf (p 2)) := rfl
theorem fs_X1_2 (a : Nat) (i : Nat → Int32) (p : Nat → Option Nat) : qflds 1 i (va_up p 2 (some a)) = (qflds 1 i p).set 2 (.ref a) := rfl
theorem ft_X1_2 : qTY 1 2 true := by
  intro C T N h
  cases h
  exact ⟨rfl, rfl, .array .int, by decide +kernel, fun x => ⟨rfl, rfl⟩⟩
theorem fn_X1_2 (i : Nat → Int32) (p : Nat → Option Nat) : 2 < (qflds 1 i p).length := by show 2 < 3; decide
set_option maxRecDepth 20000 in
theorem in_X2 : ∀ w ∈ u_ws RX2 TX2 9, w ∈ wW := by
  intro w hw
  obtain ⟨k, hk, rfl⟩ := List.mem_map.mp hw
  have hk := List.mem_range.mp hk
  match k, hk with
  | 0, _ => exact wW_at 137 (by rfl) (by rfl)
  | 1, _ => exact wW_at 139 (by rfl) (by rfl)
  | 2, _ => exact wW_at 141 (by rfl) (by rfl)
  | 3, _ => exact wW_at 143 (by rfl) (by rfl)
  | 4, _ => exact wW_at 145 (by rfl) (by rfl)
  | 5, _ => exact wW_at 147 (by rfl) (by rfl)
  | 6, _ => exact wW_at 149 (by rfl) (by rfl)
  | 7, _ => exact wW_at 151 (by rfl) (by rfl)
  | 8, _ => exact wW_at 153 (by rfl) (by rfl)
theorem fg_X2_0 (i : Nat → Int32) (p : Nat → Option Nat) : (qflds 2 i p)[0]? = some (.int (i 0)) := rfl
theorem fs_X2_0 (v : Int32) (i : Nat → Int32) (p : Nat → Option Nat) : qflds 2 (upd i 0 v) p = (qflds 2 i p).set 0 (.int v) := rfl
theorem ft_X2_0 (C : String) (T : u_T) (N : Nat) (h : vwCl[2]? = some (C, T, N)) : (T 0).2.2.2 = false ∧ parseFieldDescriptor (T 0).2.2.1 = some .int := by cases h; exact ⟨rfl, by decide +kernel⟩
theorem fn_X2_0 (i : Nat → Int32) (p : Nat → Option Nat) : 0 < (qflds 2 i p).length := by show 0 < 9; decide
theorem fg_X2_1 (i : Nat → Int32) (p : Nat → Option Nat) : (qflds 2 i p)[1]? = some (va_rf (p 1)) := rfl
theorem fs_X2_1 (a : Nat) (i : Nat → Int32) (p : Nat → Option Nat) : qflds 2 i (va_up p 1 (some a)) = (qflds 2 i p).set 1 (.ref a) := rfl
theorem ft_X2_1 : qTY 2 1 true := by
  intro C T N h
  cases h
  exact ⟨rfl, rfl, .array .int, by decide +kernel, fun x => ⟨rfl, rfl⟩⟩
theorem fn_X2_1 (i : Nat → Int32) (p : Nat → Option Nat) : 1 < (qflds 2 i p).length := by show 1 < 9; decide
theorem fg_X2_2 (i : Nat → Int32) (p : Nat → Option Nat) : (qflds 2 i p)[2]? = some (.int (i 2)) := rfl
theorem fs_X2_2 (v : Int32) (i : Nat → Int32) (p : Nat → Option Nat) : qflds 2 (upd i 2 v) p = (qflds 2 i p).set 2 (.int v) := rfl
theorem ft_X2_2 (C : String) (T : u_T) (N : Nat) (h : vwCl[2]? = some (C, T, N)) : (T 2).2.2.2 = false ∧ parseFieldDescriptor (T 2).2.2.1 = some .int := by cases h; exact ⟨rfl, by decide +kernel⟩
theorem fn_X2_2 (i : Nat → Int32) (p : Nat → Option Nat) : 2 < (qflds 2 i p).length := by show 2 < 9; decide
theorem fg_X2_3 (i : Nat → Int32) (p : Nat → Option Nat) : (qflds 2 i p)[3]? = some (.int (i 3)) := rfl
theorem fs_X2_3 (v : Int32) (i : Nat → Int32) (p : Nat → Option Nat) : qflds 2 (upd i 3 v) p = (qflds 2 i p).set 3 (.int v) := rfl
theorem ft_X2_3 (C : String) (T : u_T) (N : Nat) (h : vwCl[2]? = some (C, T, N)) : (T 3).2.2.2 = false ∧ parseFieldDescriptor (T 3).2.2.1 = some .int := by cases h; exact ⟨rfl, by decide +kernel⟩
theorem fn_X2_3 (i : Nat → Int32) (p : Nat → Option Nat) : 3 < (qflds 2 i p).length := by show 3 < 9; decide
theorem fg_X2_4 (i : Nat → Int32) (p : Nat → Option Nat) : (qflds 2 i p)[4]? = some (.int (i 4)) := rfl
theorem fs_X2_4 (v : Int32) (i : Nat → Int32) (p : Nat → Option Nat) : qflds 2 (upd i 4 v) p = (qflds 2 i p).set 4 (.int v) := rfl
theorem ft_X2_4 (C : String) (T : u_T) (N : Nat) (h : vwCl[2]? = some (C, T, N)) : (T 4).2.2.2 = false ∧ parseFieldDescriptor (T 4).2.2.1 = some .int := by cases h; exact ⟨rfl, by decide +kernel⟩
theorem fn_X2_4 (i : Nat → Int32) (p : Nat → Option Nat) : 4 < (qflds 2 i p).length := by show 4 < 9; decide
theorem fg_X2_5 (i : Nat → Int32) (p : Nat → Option Nat) : (qflds 2 i p)[5]? = some (va_rf (p 5)) := rfl
theorem fs_X2_5 (a : Nat) (i : Nat → Int32) (p : Nat → Option Nat) : qflds 2 i (va_up p 5 (some a)) = (qflds 2 i p).set 5 (.ref a) := rfl
theorem ft_X2_5 : qTY 2 5 true := by
  intro C T N h
  cases h
  exact ⟨rfl, rfl, .array .int, by decide +kernel, fun x => ⟨rfl, rfl⟩⟩
theorem fn_X2_5 (i : Nat → Int32) (p : Nat → Option Nat) : 5 < (qflds 2 i p).length := by show 5 < 9; decide
theorem fg_X2_6 (i : Nat → Int32) (p : Nat → Option Nat) : (qflds 2 i p)[6]? = some (va_rf (p 6)) := rfl
theorem fs_X2_6 (a : Nat) (i : Nat → Int32) (p : Nat → Option Nat) : qflds 2 i (va_up p 6 (some a)) = (qflds 2 i p).set 6 (.ref a) := rfl
theorem ft_X2_6 : qTY 2 6 true := by
  intro C T N h
  cases h
  exact ⟨rfl, rfl, .array .int, by decide +kernel, fun x => ⟨rfl, rfl⟩⟩
theorem fn_X2_6 (i : Nat → Int32) (p : Nat → Option Nat) : 6 < (qflds 2 i p).length := by show 6 < 9; decide
theorem fg_X2_7 (i : Nat → Int32) (p : Nat → Option Nat) : (qflds 2 i p)[7]? = some (va_rf (p 7)) := rfl
theorem fs_X2_7 (a : Nat) (i : Nat → Int32) (p : Nat → Option Nat) : qflds 2 i (va_up p 7 (some a)) = (qflds 2 i p).set 7 (.ref a) := rfl
theorem ft_X2_7 : qTY 2 7 true := by
  intro C T N h
  cases h
  exact ⟨rfl, rfl, .array .int, by decide +kernel, fun x => ⟨rfl, rfl⟩⟩
theorem fn_X2_7 (i : Nat → Int32) (p : Nat → Option Nat) : 7 < (qflds 2 i p).length := by show 7 < 9; decide
theorem fg_X2_8 (i : Nat → Int32) (p : Nat → Option Nat) : (qflds 2 i p)[8]? = some (va_rf (p 8)) := rfl
theorem fs_X2_8 (a : Nat) (i : Nat → Int32) (p : Nat → Option Nat) : qflds 2 i (va_up p 8 (some a)) = (qflds 2 i p).set 8 (.ref a) := rfl
theorem ft_X2_8 : qTY 2 8 false := by
  intro C T N h
  cases h
  exact ⟨rfl, rfl, .array .int, by decide +kernel, fun x => ⟨rfl, rfl⟩⟩
theorem fn_X2_8 (i : Nat → Int32) (p : Nat → Option Nat) : 8 < (qflds 2 i p).length := by show 8 < 9; decide
set_option maxRecDepth 20000 in
theorem in_X3 : ∀ w ∈ u_ws RX3 TX3 1, w ∈ wW := by
  intro w hw
  obtain ⟨k, hk, rfl⟩ := List.mem_map.mp hw
  have hk := List.mem_range.mp hk
  match k, hk with
  | 0, _ => exact wW_at 109 (by rfl) (by rfl)
theorem fg_X3_0 (i : Nat → Int32) (p : Nat → Option Nat) : (qflds 3 i p)[0]? = some (va_rf (p 0)) := rfl
theorem fs_X3_0 (a : Nat) (i : Nat → Int32) (p : Nat → Option Nat) : qflds 3 i (va_up p 0 (some a)) = (qflds 3 i p).set 0 (.ref a) := rfl
theorem ft_X3_0 : qTY 3 0 true := by
  intro C T N h
  cases h
  exact ⟨rfl, rfl, .array .int, by decide +kernel, fun x => ⟨rfl, rfl⟩⟩
theorem fn_X3_0 (i : Nat → Int32) (p : Nat → Option Nat) : 0 < (qflds 3 i p).length := by show 0 < 1; decide
set_option maxRecDepth 20000 in
theorem in_X4 : ∀ w ∈ u_ws RX4 TX4 7, w ∈ wW := by
  intro w hw
  obtain ⟨k, hk, rfl⟩ := List.mem_map.mp hw
  have hk := List.mem_range.mp hk
  match k, hk with
  | 0, _ => exact wW_at 249 (by rfl) (by rfl)
  | 1, _ => exact wW_at 251 (by rfl) (by rfl)
  | 2, _ => exact wW_at 253 (by rfl) (by rfl)
  | 3, _ => exact wW_at 255 (by rfl) (by rfl)
  | 4, _ => exact wW_at 257 (by rfl) (by rfl)
  | 5, _ => exact wW_at 259 (by rfl) (by rfl)
  | 6, _ => exact wW_at 261 (by rfl) (by rfl)
theorem fg_X4_0 (i : Nat → Int32) (p : Nat → Option Nat) : (qflds 4 i p)[0]? = some (va_rf (p 0)) := rfl
theorem fs_X4_0 (a : Nat) (i : Nat → Int32) (p : Nat → Option Nat) : qflds 4 i (va_up p 0 (some a)) = (qflds 4 i p).set 0 (.ref a) := rfl
theorem ft_X4_0 : qTY 4 0 true := by
  intro C T N h
  cases h
  exact ⟨rfl, rfl, .array (.object "TrainBook$Train"), by decide +kernel, fun x => ⟨rfl, rfl⟩⟩
theorem fn_X4_0 (i : Nat → Int32) (p : Nat → Option Nat) : 0 < (qflds 4 i p).length := by show 0 < 7; decide
theorem fg_X4_1 (i : Nat → Int32) (p : Nat → Option Nat) : (qflds 4 i p)[1]? = some (va_rf (p 1)) := rfl
theorem fs_X4_1 (a : Nat) (i : Nat → Int32) (p : Nat → Option Nat) : qflds 4 i (va_up p 1 (some a)) = (qflds 4 i p).set 1 (.ref a) := rfl
theorem ft_X4_1 : qTY 4 1 true := by
  intro C T N h
  cases h
  exact ⟨rfl, rfl, .array .int, by decide +kernel, fun x => ⟨rfl, rfl⟩⟩
theorem fn_X4_1 (i : Nat → Int32) (p : Nat → Option Nat) : 1 < (qflds 4 i p).length := by show 1 < 7; decide
theorem fg_X4_2 (i : Nat → Int32) (p : Nat → Option Nat) : (qflds 4 i p)[2]? = some (va_rf (p 2)) := rfl
theorem fs_X4_2 (a : Nat) (i : Nat → Int32) (p : Nat → Option Nat) : qflds 4 i (va_up p 2 (some a)) = (qflds 4 i p).set 2 (.ref a) := rfl
theorem ft_X4_2 : qTY 4 2 true := by
  intro C T N h
  cases h
  exact ⟨rfl, rfl, .array .int, by decide +kernel, fun x => ⟨rfl, rfl⟩⟩
theorem fn_X4_2 (i : Nat → Int32) (p : Nat → Option Nat) : 2 < (qflds 4 i p).length := by show 2 < 7; decide
theorem fg_X4_3 (i : Nat → Int32) (p : Nat → Option Nat) : (qflds 4 i p)[3]? = some (va_rf (p 3)) := rfl
theorem fs_X4_3 (a : Nat) (i : Nat → Int32) (p : Nat → Option Nat) : qflds 4 i (va_up p 3 (some a)) = (qflds 4 i p).set 3 (.ref a) := rfl
theorem ft_X4_3 : qTY 4 3 true := by
  intro C T N h
  cases h
  exact ⟨rfl, rfl, .object "TrainBook$RowSearch", by decide +kernel, fun x => ⟨rfl, rfl⟩⟩
theorem fn_X4_3 (i : Nat → Int32) (p : Nat → Option Nat) : 3 < (qflds 4 i p).length := by show 3 < 7; decide
theorem fg_X4_4 (i : Nat → Int32) (p : Nat → Option Nat) : (qflds 4 i p)[4]? = some (va_rf (p 4)) := rfl
theorem fs_X4_4 (a : Nat) (i : Nat → Int32) (p : Nat → Option Nat) : qflds 4 i (va_up p 4 (some a)) = (qflds 4 i p).set 4 (.ref a) := rfl
theorem ft_X4_4 : qTY 4 4 true := by
  intro C T N h
  cases h
  exact ⟨rfl, rfl, .object "TrainBook$ColumnOrder", by decide +kernel, fun x => ⟨rfl, rfl⟩⟩
theorem fn_X4_4 (i : Nat → Int32) (p : Nat → Option Nat) : 4 < (qflds 4 i p).length := by show 4 < 7; decide
theorem fg_X4_5 (i : Nat → Int32) (p : Nat → Option Nat) : (qflds 4 i p)[5]? = some (va_rf (p 5)) := rfl
theorem fs_X4_5 (a : Nat) (i : Nat → Int32) (p : Nat → Option Nat) : qflds 4 i (va_up p 5 (some a)) = (qflds 4 i p).set 5 (.ref a) := rfl
theorem ft_X4_5 : qTY 4 5 true := by
  intro C T N h
  cases h
  exact ⟨rfl, rfl, .object "TrainBook$LanePlan", by decide +kernel, fun x => ⟨rfl, rfl⟩⟩
theorem fn_X4_5 (i : Nat → Int32) (p : Nat → Option Nat) : 5 < (qflds 4 i p).length := by show 5 < 7; decide
theorem fg_X4_6 (i : Nat → Int32) (p : Nat → Option Nat) : (qflds 4 i p)[6]? = some (.int (i 6)) := rfl
theorem fs_X4_6 (v : Int32) (i : Nat → Int32) (p : Nat → Option Nat) : qflds 4 (upd i 6 v) p = (qflds 4 i p).set 6 (.int v) := rfl
theorem ft_X4_6 (C : String) (T : u_T) (N : Nat) (h : vwCl[4]? = some (C, T, N)) : (T 6).2.2.2 = false ∧ parseFieldDescriptor (T 6).2.2.1 = some .int := by cases h; exact ⟨rfl, by decide +kernel⟩
theorem fn_X4_6 (i : Nat → Int32) (p : Nat → Option Nat) : 6 < (qflds 4 i p).length := by show 6 < 7; decide
set_option maxRecDepth 20000 in
theorem in_X5 : ∀ w ∈ u_ws RX5 TX5 6, w ∈ wW := by
  intro w hw
  obtain ⟨k, hk, rfl⟩ := List.mem_map.mp hw
  have hk := List.mem_range.mp hk
  match k, hk with
  | 0, _ => exact wW_at 229 (by rfl) (by rfl)
  | 1, _ => exact wW_at 231 (by rfl) (by rfl)
  | 2, _ => exact wW_at 233 (by rfl) (by rfl)
  | 3, _ => exact wW_at 235 (by rfl) (by rfl)
  | 4, _ => exact wW_at 237 (by rfl) (by rfl)
  | 5, _ => exact wW_at 239 (by rfl) (by rfl)
theorem fg_X5_0 (i : Nat → Int32) (p : Nat → Option Nat) : (qflds 5 i p)[0]? = some (.int (i 0)) := rfl
theorem fs_X5_0 (v : Int32) (i : Nat → Int32) (p : Nat → Option Nat) : qflds 5 (upd i 0 v) p = (qflds 5 i p).set 0 (.int v) := rfl
theorem ft_X5_0 (C : String) (T : u_T) (N : Nat) (h : vwCl[5]? = some (C, T, N)) : (T 0).2.2.2 = false ∧ parseFieldDescriptor (T 0).2.2.1 = some .int := by cases h; exact ⟨rfl, by decide +kernel⟩
theorem fn_X5_0 (i : Nat → Int32) (p : Nat → Option Nat) : 0 < (qflds 5 i p).length := by show 0 < 6; decide
theorem fg_X5_1 (i : Nat → Int32) (p : Nat → Option Nat) : (qflds 5 i p)[1]? = some (.int (i 1)) := rfl
theorem fs_X5_1 (v : Int32) (i : Nat → Int32) (p : Nat → Option Nat) : qflds 5 (upd i 1 v) p = (qflds 5 i p).set 1 (.int v) := rfl
theorem ft_X5_1 (C : String) (T : u_T) (N : Nat) (h : vwCl[5]? = some (C, T, N)) : (T 1).2.2.2 = false ∧ parseFieldDescriptor (T 1).2.2.1 = some .int := by cases h; exact ⟨rfl, by decide +kernel⟩
theorem fn_X5_1 (i : Nat → Int32) (p : Nat → Option Nat) : 1 < (qflds 5 i p).length := by show 1 < 6; decide
theorem fg_X5_2 (i : Nat → Int32) (p : Nat → Option Nat) : (qflds 5 i p)[2]? = some (va_rf (p 2)) := rfl
theorem fs_X5_2 (a : Nat) (i : Nat → Int32) (p : Nat → Option Nat) : qflds 5 i (va_up p 2 (some a)) = (qflds 5 i p).set 2 (.ref a) := rfl
theorem ft_X5_2 : qTY 5 2 true := by
  intro C T N h
  cases h
  exact ⟨rfl, rfl, .array .int, by decide +kernel, fun x => ⟨rfl, rfl⟩⟩
theorem fn_X5_2 (i : Nat → Int32) (p : Nat → Option Nat) : 2 < (qflds 5 i p).length := by show 2 < 6; decide
theorem fg_X5_3 (i : Nat → Int32) (p : Nat → Option Nat) : (qflds 5 i p)[3]? = some (va_rf (p 3)) := rfl
theorem fs_X5_3 (a : Nat) (i : Nat → Int32) (p : Nat → Option Nat) : qflds 5 i (va_up p 3 (some a)) = (qflds 5 i p).set 3 (.ref a) := rfl
theorem ft_X5_3 : qTY 5 3 true := by
  intro C T N h
  cases h
  exact ⟨rfl, rfl, .array .int, by decide +kernel, fun x => ⟨rfl, rfl⟩⟩
theorem fn_X5_3 (i : Nat → Int32) (p : Nat → Option Nat) : 3 < (qflds 5 i p).length := by show 3 < 6; decide
theorem fg_X5_4 (i : Nat → Int32) (p : Nat → Option Nat) : (qflds 5 i p)[4]? = some (va_rf (p 4)) := rfl
theorem fs_X5_4 (a : Nat) (i : Nat → Int32) (p : Nat → Option Nat) : qflds 5 i (va_up p 4 (some a)) = (qflds 5 i p).set 4 (.ref a) := rfl
theorem ft_X5_4 : qTY 5 4 true := by
  intro C T N h
  cases h
  exact ⟨rfl, rfl, .array .int, by decide +kernel, fun x => ⟨rfl, rfl⟩⟩
theorem fn_X5_4 (i : Nat → Int32) (p : Nat → Option Nat) : 4 < (qflds 5 i p).length := by show 4 < 6; decide
theorem fg_X5_5 (i : Nat → Int32) (p : Nat → Option Nat) : (qflds 5 i p)[5]? = some (va_rf (p 5)) := rfl
theorem fs_X5_5 (a : Nat) (i : Nat → Int32) (p : Nat → Option Nat) : qflds 5 i (va_up p 5 (some a)) = (qflds 5 i p).set 5 (.ref a) := rfl
theorem ft_X5_5 : qTY 5 5 true := by
  intro C T N h
  cases h
  exact ⟨rfl, rfl, .array .int, by decide +kernel, fun x => ⟨rfl, rfl⟩⟩
theorem fn_X5_5 (i : Nat → Int32) (p : Nat → Option Nat) : 5 < (qflds 5 i p).length := by show 5 < 6; decide
set_option maxRecDepth 20000 in
theorem in_X6 : ∀ w ∈ u_ws RX6 TX6 16, w ∈ wW := by
  intro w hw
  obtain ⟨k, hk, rfl⟩ := List.mem_map.mp hw
  have hk := List.mem_range.mp hk
  match k, hk with
  | 0, _ => exact wW_at 287 (by rfl) (by rfl)
  | 1, _ => exact wW_at 289 (by rfl) (by rfl)
  | 2, _ => exact wW_at 291 (by rfl) (by rfl)
  | 3, _ => exact wW_at 293 (by rfl) (by rfl)
  | 4, _ => exact wW_at 295 (by rfl) (by rfl)
  | 5, _ => exact wW_at 297 (by rfl) (by rfl)
  | 6, _ => exact wW_at 299 (by rfl) (by rfl)
  | 7, _ => exact wW_at 301 (by rfl) (by rfl)
  | 8, _ => exact wW_at 303 (by rfl) (by rfl)
  | 9, _ => exact wW_at 305 (by rfl) (by rfl)
  | 10, _ => exact wW_at 307 (by rfl) (by rfl)
  | 11, _ => exact wW_at 309 (by rfl) (by rfl)
  | 12, _ => exact wW_at 311 (by rfl) (by rfl)
  | 13, _ => exact wW_at 313 (by rfl) (by rfl)
  | 14, _ => exact wW_at 315 (by rfl) (by rfl)
  | 15, _ => exact wW_at 317 (by rfl) (by rfl)
  | k + 16, h => exact absurd h (by omega)
theorem fg_X6_0 (i : Nat → Int32) (p : Nat → Option Nat) : (qflds 6 i p)[0]? = some (va_rf (p 0)) := rfl
theorem fs_X6_0 (a : Nat) (i : Nat → Int32) (p : Nat → Option Nat) : qflds 6 i (va_up p 0 (some a)) = (qflds 6 i p).set 0 (.ref a) := rfl
theorem ft_X6_0 : qTY 6 0 false := by
  intro C T N h
  cases h
  exact ⟨rfl, rfl, .array (.object "TrainBook$Train"), by decide +kernel, fun x => ⟨rfl, rfl⟩⟩
theorem fn_X6_0 (i : Nat → Int32) (p : Nat → Option Nat) : 0 < (qflds 6 i p).length := by show 0 < 16; decide
theorem fg_X6_1 (i : Nat → Int32) (p : Nat → Option Nat) : (qflds 6 i p)[1]? = some (.int (i 1)) := rfl
theorem fs_X6_1 (v : Int32) (i : Nat → Int32) (p : Nat → Option Nat) : qflds 6 (upd i 1 v) p = (qflds 6 i p).set 1 (.int v) := rfl
theorem ft_X6_1 (C : String) (T : u_T) (N : Nat) (h : vwCl[6]? = some (C, T, N)) : (T 1).2.2.2 = false ∧ parseFieldDescriptor (T 1).2.2.1 = some .int := by cases h; exact ⟨rfl, by decide +kernel⟩
theorem fn_X6_1 (i : Nat → Int32) (p : Nat → Option Nat) : 1 < (qflds 6 i p).length := by show 1 < 16; decide
theorem fg_X6_2 (i : Nat → Int32) (p : Nat → Option Nat) : (qflds 6 i p)[2]? = some (.int (i 2)) := rfl
theorem fs_X6_2 (v : Int32) (i : Nat → Int32) (p : Nat → Option Nat) : qflds 6 (upd i 2 v) p = (qflds 6 i p).set 2 (.int v) := rfl
theorem ft_X6_2 (C : String) (T : u_T) (N : Nat) (h : vwCl[6]? = some (C, T, N)) : (T 2).2.2.2 = false ∧ parseFieldDescriptor (T 2).2.2.1 = some .int := by cases h; exact ⟨rfl, by decide +kernel⟩
theorem fn_X6_2 (i : Nat → Int32) (p : Nat → Option Nat) : 2 < (qflds 6 i p).length := by show 2 < 16; decide
theorem fg_X6_3 (i : Nat → Int32) (p : Nat → Option Nat) : (qflds 6 i p)[3]? = some (.int (i 3)) := rfl
theorem fs_X6_3 (v : Int32) (i : Nat → Int32) (p : Nat → Option Nat) : qflds 6 (upd i 3 v) p = (qflds 6 i p).set 3 (.int v) := rfl
theorem ft_X6_3 (C : String) (T : u_T) (N : Nat) (h : vwCl[6]? = some (C, T, N)) : (T 3).2.2.2 = false ∧ parseFieldDescriptor (T 3).2.2.1 = some .int := by cases h; exact ⟨rfl, by decide +kernel⟩
theorem fn_X6_3 (i : Nat → Int32) (p : Nat → Option Nat) : 3 < (qflds 6 i p).length := by show 3 < 16; decide
theorem fg_X6_4 (i : Nat → Int32) (p : Nat → Option Nat) : (qflds 6 i p)[4]? = some (va_rf (p 4)) := rfl
theorem fs_X6_4 (a : Nat) (i : Nat → Int32) (p : Nat → Option Nat) : qflds 6 i (va_up p 4 (some a)) = (qflds 6 i p).set 4 (.ref a) := rfl
theorem ft_X6_4 : qTY 6 4 true := by
  intro C T N h
  cases h
  exact ⟨rfl, rfl, .array .int, by decide +kernel, fun x => ⟨rfl, rfl⟩⟩
theorem fn_X6_4 (i : Nat → Int32) (p : Nat → Option Nat) : 4 < (qflds 6 i p).length := by show 4 < 16; decide
theorem fg_X6_5 (i : Nat → Int32) (p : Nat → Option Nat) : (qflds 6 i p)[5]? = some (va_rf (p 5)) := rfl
theorem fs_X6_5 (a : Nat) (i : Nat → Int32) (p : Nat → Option Nat) : qflds 6 i (va_up p 5 (some a)) = (qflds 6 i p).set 5 (.ref a) := rfl
theorem ft_X6_5 : qTY 6 5 true := by
  intro C T N h
  cases h
  exact ⟨rfl, rfl, .array .int, by decide +kernel, fun x => ⟨rfl, rfl⟩⟩
theorem fn_X6_5 (i : Nat → Int32) (p : Nat → Option Nat) : 5 < (qflds 6 i p).length := by show 5 < 16; decide
theorem fg_X6_6 (i : Nat → Int32) (p : Nat → Option Nat) : (qflds 6 i p)[6]? = some (.int (i 6)) := rfl
theorem fs_X6_6 (v : Int32) (i : Nat → Int32) (p : Nat → Option Nat) : qflds 6 (upd i 6 v) p = (qflds 6 i p).set 6 (.int v) := rfl
theorem ft_X6_6 (C : String) (T : u_T) (N : Nat) (h : vwCl[6]? = some (C, T, N)) : (T 6).2.2.2 = false ∧ parseFieldDescriptor (T 6).2.2.1 = some .int := by cases h; exact ⟨rfl, by decide +kernel⟩
theorem fn_X6_6 (i : Nat → Int32) (p : Nat → Option Nat) : 6 < (qflds 6 i p).length := by show 6 < 16; decide
theorem fg_X6_7 (i : Nat → Int32) (p : Nat → Option Nat) : (qflds 6 i p)[7]? = some (.int (i 7)) := rfl
theorem fs_X6_7 (v : Int32) (i : Nat → Int32) (p : Nat → Option Nat) : qflds 6 (upd i 7 v) p = (qflds 6 i p).set 7 (.int v) := rfl
theorem ft_X6_7 (C : String) (T : u_T) (N : Nat) (h : vwCl[6]? = some (C, T, N)) : (T 7).2.2.2 = false ∧ parseFieldDescriptor (T 7).2.2.1 = some .int := by cases h; exact ⟨rfl, by decide +kernel⟩
theorem fn_X6_7 (i : Nat → Int32) (p : Nat → Option Nat) : 7 < (qflds 6 i p).length := by show 7 < 16; decide
theorem fg_X6_8 (i : Nat → Int32) (p : Nat → Option Nat) : (qflds 6 i p)[8]? = some (va_rf (p 8)) := rfl
theorem fs_X6_8 (a : Nat) (i : Nat → Int32) (p : Nat → Option Nat) : qflds 6 i (va_up p 8 (some a)) = (qflds 6 i p).set 8 (.ref a) := rfl
theorem ft_X6_8 : qTY 6 8 true := by
  intro C T N h
  cases h
  exact ⟨rfl, rfl, .array .int, by decide +kernel, fun x => ⟨rfl, rfl⟩⟩
theorem fn_X6_8 (i : Nat → Int32) (p : Nat → Option Nat) : 8 < (qflds 6 i p).length := by show 8 < 16; decide
theorem fg_X6_9 (i : Nat → Int32) (p : Nat → Option Nat) : (qflds 6 i p)[9]? = some (va_rf (p 9)) := rfl
theorem fs_X6_9 (a : Nat) (i : Nat → Int32) (p : Nat → Option Nat) : qflds 6 i (va_up p 9 (some a)) = (qflds 6 i p).set 9 (.ref a) := rfl
theorem ft_X6_9 : qTY 6 9 true := by
  intro C T N h
  cases h
  exact ⟨rfl, rfl, .array .int, by decide +kernel, fun x => ⟨rfl, rfl⟩⟩
theorem fn_X6_9 (i : Nat → Int32) (p : Nat → Option Nat) : 9 < (qflds 6 i p).length := by show 9 < 16; decide
theorem fg_X6_10 (i : Nat → Int32) (p : Nat → Option Nat) : (qflds 6 i p)[10]? = some (va_rf (p 10)) := rfl
theorem fs_X6_10 (a : Nat) (i : Nat → Int32) (p : Nat → Option Nat) : qflds 6 i (va_up p 10 (some a)) = (qflds 6 i p).set 10 (.ref a) := rfl
theorem ft_X6_10 : qTY 6 10 true := by
  intro C T N h
  cases h
  exact ⟨rfl, rfl, .array .int, by decide +kernel, fun x => ⟨rfl, rfl⟩⟩
theorem fn_X6_10 (i : Nat → Int32) (p : Nat → Option Nat) : 10 < (qflds 6 i p).length := by show 10 < 16; decide
theorem fg_X6_11 (i : Nat → Int32) (p : Nat → Option Nat) : (qflds 6 i p)[11]? = some (va_rf (p 11)) := rfl
theorem fs_X6_11 (a : Nat) (i : Nat → Int32) (p : Nat → Option Nat) : qflds 6 i (va_up p 11 (some a)) = (qflds 6 i p).set 11 (.ref a) := rfl
theorem ft_X6_11 : qTY 6 11 true := by
  intro C T N h
  cases h
  exact ⟨rfl, rfl, .array .int, by decide +kernel, fun x => ⟨rfl, rfl⟩⟩
theorem fn_X6_11 (i : Nat → Int32) (p : Nat → Option Nat) : 11 < (qflds 6 i p).length := by show 11 < 16; decide
theorem fg_X6_12 (i : Nat → Int32) (p : Nat → Option Nat) : (qflds 6 i p)[12]? = some (va_rf (p 12)) := rfl
theorem fs_X6_12 (a : Nat) (i : Nat → Int32) (p : Nat → Option Nat) : qflds 6 i (va_up p 12 (some a)) = (qflds 6 i p).set 12 (.ref a) := rfl
theorem ft_X6_12 : qTY 6 12 true := by
  intro C T N h
  cases h
  exact ⟨rfl, rfl, .array .int, by decide +kernel, fun x => ⟨rfl, rfl⟩⟩
theorem fn_X6_12 (i : Nat → Int32) (p : Nat → Option Nat) : 12 < (qflds 6 i p).length := by show 12 < 16; decide
theorem fg_X6_13 (i : Nat → Int32) (p : Nat → Option Nat) : (qflds 6 i p)[13]? = some (.int (i 13)) := rfl
theorem fs_X6_13 (v : Int32) (i : Nat → Int32) (p : Nat → Option Nat) : qflds 6 (upd i 13 v) p = (qflds 6 i p).set 13 (.int v) := rfl
theorem ft_X6_13 (C : String) (T : u_T) (N : Nat) (h : vwCl[6]? = some (C, T, N)) : (T 13).2.2.2 = false ∧ parseFieldDescriptor (T 13).2.2.1 = some .int := by cases h; exact ⟨rfl, by decide +kernel⟩
theorem fn_X6_13 (i : Nat → Int32) (p : Nat → Option Nat) : 13 < (qflds 6 i p).length := by show 13 < 16; decide
theorem fg_X6_14 (i : Nat → Int32) (p : Nat → Option Nat) : (qflds 6 i p)[14]? = some (va_rf (p 14)) := rfl
theorem fs_X6_14 (a : Nat) (i : Nat → Int32) (p : Nat → Option Nat) : qflds 6 i (va_up p 14 (some a)) = (qflds 6 i p).set 14 (.ref a) := rfl
theorem ft_X6_14 : qTY 6 14 true := by
  intro C T N h
  cases h
  exact ⟨rfl, rfl, .array .int, by decide +kernel, fun x => ⟨rfl, rfl⟩⟩
theorem fn_X6_14 (i : Nat → Int32) (p : Nat → Option Nat) : 14 < (qflds 6 i p).length := by show 14 < 16; decide
theorem fg_X6_15 (i : Nat → Int32) (p : Nat → Option Nat) : (qflds 6 i p)[15]? = some (.int (i 15)) := rfl
theorem fs_X6_15 (v : Int32) (i : Nat → Int32) (p : Nat → Option Nat) : qflds 6 (upd i 15 v) p = (qflds 6 i p).set 15 (.int v) := rfl
theorem ft_X6_15 (C : String) (T : u_T) (N : Nat) (h : vwCl[6]? = some (C, T, N)) : (T 15).2.2.2 = false ∧ parseFieldDescriptor (T 15).2.2.1 = some .int := by cases h; exact ⟨rfl, by decide +kernel⟩
theorem fn_X6_15 (i : Nat → Int32) (p : Nat → Option Nat) : 15 < (qflds 6 i p).length := by show 15 < 16; decide
set_option maxRecDepth 20000 in
theorem in_X7 : ∀ w ∈ u_ws RX7 TX7 6, w ∈ wW := by
  intro w hw
  obtain ⟨k, hk, rfl⟩ := List.mem_map.mp hw
  have hk := List.mem_range.mp hk
  match k, hk with
  | 0, _ => exact wW_at 327 (by rfl) (by rfl)
  | 1, _ => exact wW_at 329 (by rfl) (by rfl)
  | 2, _ => exact wW_at 331 (by rfl) (by rfl)
  | 3, _ => exact wW_at 333 (by rfl) (by rfl)
  | 4, _ => exact wW_at 335 (by rfl) (by rfl)
  | 5, _ => exact wW_at 337 (by rfl) (by rfl)
theorem fg_X7_0 (i : Nat → Int32) (p : Nat → Option Nat) : (qflds 7 i p)[0]? = some (va_rf (p 0)) := rfl
theorem fs_X7_0 (a : Nat) (i : Nat → Int32) (p : Nat → Option Nat) : qflds 7 i (va_up p 0 (some a)) = (qflds 7 i p).set 0 (.ref a) := rfl
theorem ft_X7_0 : qTY 7 0 true := by
  intro C T N h
  cases h
  exact ⟨rfl, rfl, .array (.object "TrainBook$Train"), by decide +kernel, fun x => ⟨rfl, rfl⟩⟩
theorem fn_X7_0 (i : Nat → Int32) (p : Nat → Option Nat) : 0 < (qflds 7 i p).length := by show 0 < 6; decide
theorem fg_X7_1 (i : Nat → Int32) (p : Nat → Option Nat) : (qflds 7 i p)[1]? = some (va_rf (p 1)) := rfl
theorem fs_X7_1 (a : Nat) (i : Nat → Int32) (p : Nat → Option Nat) : qflds 7 i (va_up p 1 (some a)) = (qflds 7 i p).set 1 (.ref a) := rfl
theorem ft_X7_1 : qTY 7 1 true := by
  intro C T N h
  cases h
  exact ⟨rfl, rfl, .object "TrainBook$SignBook", by decide +kernel, fun x => ⟨rfl, rfl⟩⟩
theorem fn_X7_1 (i : Nat → Int32) (p : Nat → Option Nat) : 1 < (qflds 7 i p).length := by show 1 < 6; decide
theorem fg_X7_2 (i : Nat → Int32) (p : Nat → Option Nat) : (qflds 7 i p)[2]? = some (va_rf (p 2)) := rfl
theorem fs_X7_2 (a : Nat) (i : Nat → Int32) (p : Nat → Option Nat) : qflds 7 i (va_up p 2 (some a)) = (qflds 7 i p).set 2 (.ref a) := rfl
theorem ft_X7_2 : qTY 7 2 true := by
  intro C T N h
  cases h
  exact ⟨rfl, rfl, .object "TrainBook$Table", by decide +kernel, fun x => ⟨rfl, rfl⟩⟩
theorem fn_X7_2 (i : Nat → Int32) (p : Nat → Option Nat) : 2 < (qflds 7 i p).length := by show 2 < 6; decide
theorem fg_X7_3 (i : Nat → Int32) (p : Nat → Option Nat) : (qflds 7 i p)[3]? = some (va_rf (p 3)) := rfl
theorem fs_X7_3 (a : Nat) (i : Nat → Int32) (p : Nat → Option Nat) : qflds 7 i (va_up p 3 (some a)) = (qflds 7 i p).set 3 (.ref a) := rfl
theorem ft_X7_3 : qTY 7 3 true := by
  intro C T N h
  cases h
  exact ⟨rfl, rfl, .object "TrainBook$WayFinder", by decide +kernel, fun x => ⟨rfl, rfl⟩⟩
theorem fn_X7_3 (i : Nat → Int32) (p : Nat → Option Nat) : 3 < (qflds 7 i p).length := by show 3 < 6; decide
theorem fg_X7_4 (i : Nat → Int32) (p : Nat → Option Nat) : (qflds 7 i p)[4]? = some (.int (i 4)) := rfl
theorem fs_X7_4 (v : Int32) (i : Nat → Int32) (p : Nat → Option Nat) : qflds 7 (upd i 4 v) p = (qflds 7 i p).set 4 (.int v) := rfl
theorem ft_X7_4 (C : String) (T : u_T) (N : Nat) (h : vwCl[7]? = some (C, T, N)) : (T 4).2.2.2 = false ∧ parseFieldDescriptor (T 4).2.2.1 = some .int := by cases h; exact ⟨rfl, by decide +kernel⟩
theorem fn_X7_4 (i : Nat → Int32) (p : Nat → Option Nat) : 4 < (qflds 7 i p).length := by show 4 < 6; decide
theorem fg_X7_5 (i : Nat → Int32) (p : Nat → Option Nat) : (qflds 7 i p)[5]? = some (.int (i 5)) := rfl
theorem fs_X7_5 (v : Int32) (i : Nat → Int32) (p : Nat → Option Nat) : qflds 7 (upd i 5 v) p = (qflds 7 i p).set 5 (.int v) := rfl
theorem ft_X7_5 (C : String) (T : u_T) (N : Nat) (h : vwCl[7]? = some (C, T, N)) : (T 5).2.2.2 = false ∧ parseFieldDescriptor (T 5).2.2.1 = some .int := by cases h; exact ⟨rfl, by decide +kernel⟩
theorem fn_X7_5 (i : Nat → Int32) (p : Nat → Option Nat) : 5 < (qflds 7 i p).length := by show 5 < 6; decide
set_option maxRecDepth 20000 in
theorem in_X8 : ∀ w ∈ u_ws RX8 TX8 35, w ∈ wW := by
  intro w hw
  obtain ⟨k, hk, rfl⟩ := List.mem_map.mp hw
  have hk := List.mem_range.mp hk
  match k, hk with
  | 0, _ => exact wW_at 815 (by rfl) (by rfl)
  | 1, _ => exact wW_at 817 (by rfl) (by rfl)
  | 2, _ => exact wW_at 819 (by rfl) (by rfl)
  | 3, _ => exact wW_at 821 (by rfl) (by rfl)
  | 4, _ => exact wW_at 823 (by rfl) (by rfl)
  | 5, _ => exact wW_at 825 (by rfl) (by rfl)
  | 6, _ => exact wW_at 827 (by rfl) (by rfl)
  | 7, _ => exact wW_at 829 (by rfl) (by rfl)
  | 8, _ => exact wW_at 831 (by rfl) (by rfl)
  | 9, _ => exact wW_at 833 (by rfl) (by rfl)
  | 10, _ => exact wW_at 835 (by rfl) (by rfl)
  | 11, _ => exact wW_at 837 (by rfl) (by rfl)
  | 12, _ => exact wW_at 839 (by rfl) (by rfl)
  | 13, _ => exact wW_at 841 (by rfl) (by rfl)
  | 14, _ => exact wW_at 843 (by rfl) (by rfl)
  | 15, _ => exact wW_at 845 (by rfl) (by rfl)
  | 16, _ => exact wW_at 847 (by rfl) (by rfl)
  | 17, _ => exact wW_at 849 (by rfl) (by rfl)
  | 18, _ => exact wW_at 851 (by rfl) (by rfl)
  | 19, _ => exact wW_at 853 (by rfl) (by rfl)
  | 20, _ => exact wW_at 855 (by rfl) (by rfl)
  | 21, _ => exact wW_at 857 (by rfl) (by rfl)
  | 22, _ => exact wW_at 859 (by rfl) (by rfl)
  | 23, _ => exact wW_at 861 (by rfl) (by rfl)
  | 24, _ => exact wW_at 863 (by rfl) (by rfl)
  | 25, _ => exact wW_at 865 (by rfl) (by rfl)
  | 26, _ => exact wW_at 867 (by rfl) (by rfl)
  | 27, _ => exact wW_at 869 (by rfl) (by rfl)
  | 28, _ => exact wW_at 871 (by rfl) (by rfl)
  | 29, _ => exact wW_at 873 (by rfl) (by rfl)
  | 30, _ => exact wW_at 875 (by rfl) (by rfl)
  | 31, _ => exact wW_at 877 (by rfl) (by rfl)
  | 32, _ => exact wW_at 879 (by rfl) (by rfl)
  | 33, _ => exact wW_at 881 (by rfl) (by rfl)
  | 34, _ => exact wW_at 883 (by rfl) (by rfl)
  | k + 35, h => exact absurd h (by omega)
theorem fg_X8_0 (i : Nat → Int32) (p : Nat → Option Nat) : (qflds 8 i p)[0]? = some (.int (i 0)) := rfl
theorem fs_X8_0 (v : Int32) (i : Nat → Int32) (p : Nat → Option Nat) : qflds 8 (upd i 0 v) p = (qflds 8 i p).set 0 (.int v) := rfl
theorem ft_X8_0 (C : String) (T : u_T) (N : Nat) (h : vwCl[8]? = some (C, T, N)) : (T 0).2.2.2 = false ∧ parseFieldDescriptor (T 0).2.2.1 = some .int := by cases h; exact ⟨rfl, by decide +kernel⟩
theorem fn_X8_0 (i : Nat → Int32) (p : Nat → Option Nat) : 0 < (qflds 8 i p).length := by show 0 < 35; decide
theorem fg_X8_1 (i : Nat → Int32) (p : Nat → Option Nat) : (qflds 8 i p)[1]? = some (.int (i 1)) := rfl
theorem fs_X8_1 (v : Int32) (i : Nat → Int32) (p : Nat → Option Nat) : qflds 8 (upd i 1 v) p = (qflds 8 i p).set 1 (.int v) := rfl
theorem ft_X8_1 (C : String) (T : u_T) (N : Nat) (h : vwCl[8]? = some (C, T, N)) : (T 1).2.2.2 = false ∧ parseFieldDescriptor (T 1).2.2.1 = some .int := by cases h; exact ⟨rfl, by decide +kernel⟩
theorem fn_X8_1 (i : Nat → Int32) (p : Nat → Option Nat) : 1 < (qflds 8 i p).length := by show 1 < 35; decide
theorem fg_X8_2 (i : Nat → Int32) (p : Nat → Option Nat) : (qflds 8 i p)[2]? = some (.int (i 2)) := rfl
theorem fs_X8_2 (v : Int32) (i : Nat → Int32) (p : Nat → Option Nat) : qflds 8 (upd i 2 v) p = (qflds 8 i p).set 2 (.int v) := rfl
theorem ft_X8_2 (C : String) (T : u_T) (N : Nat) (h : vwCl[8]? = some (C, T, N)) : (T 2).2.2.2 = false ∧ parseFieldDescriptor (T 2).2.2.1 = some .int := by cases h; exact ⟨rfl, by decide +kernel⟩
theorem fn_X8_2 (i : Nat → Int32) (p : Nat → Option Nat) : 2 < (qflds 8 i p).length := by show 2 < 35; decide
theorem fg_X8_3 (i : Nat → Int32) (p : Nat → Option Nat) : (qflds 8 i p)[3]? = some (va_rf (p 3)) := rfl
theorem fs_X8_3 (a : Nat) (i : Nat → Int32) (p : Nat → Option Nat) : qflds 8 i (va_up p 3 (some a)) = (qflds 8 i p).set 3 (.ref a) := rfl
theorem ft_X8_3 : qTY 8 3 true := by
  intro C T N h
  cases h
  exact ⟨rfl, rfl, .array .int, by decide +kernel, fun x => ⟨rfl, rfl⟩⟩
theorem fn_X8_3 (i : Nat → Int32) (p : Nat → Option Nat) : 3 < (qflds 8 i p).length := by show 3 < 35; decide
theorem fg_X8_4 (i : Nat → Int32) (p : Nat → Option Nat) : (qflds 8 i p)[4]? = some (va_rf (p 4)) := rfl
theorem fs_X8_4 (a : Nat) (i : Nat → Int32) (p : Nat → Option Nat) : qflds 8 i (va_up p 4 (some a)) = (qflds 8 i p).set 4 (.ref a) := rfl
theorem ft_X8_4 : qTY 8 4 true := by
  intro C T N h
  cases h
  exact ⟨rfl, rfl, .array .int, by decide +kernel, fun x => ⟨rfl, rfl⟩⟩
theorem fn_X8_4 (i : Nat → Int32) (p : Nat → Option Nat) : 4 < (qflds 8 i p).length := by show 4 < 35; decide
theorem fg_X8_5 (i : Nat → Int32) (p : Nat → Option Nat) : (qflds 8 i p)[5]? = some (va_rf (p 5)) := rfl
theorem fs_X8_5 (a : Nat) (i : Nat → Int32) (p : Nat → Option Nat) : qflds 8 i (va_up p 5 (some a)) = (qflds 8 i p).set 5 (.ref a) := rfl
theorem ft_X8_5 : qTY 8 5 true := by
  intro C T N h
  cases h
  exact ⟨rfl, rfl, .array .int, by decide +kernel, fun x => ⟨rfl, rfl⟩⟩
theorem fn_X8_5 (i : Nat → Int32) (p : Nat → Option Nat) : 5 < (qflds 8 i p).length := by show 5 < 35; decide
theorem fg_X8_6 (i : Nat → Int32) (p : Nat → Option Nat) : (qflds 8 i p)[6]? = some (va_rf (p 6)) := rfl
theorem fs_X8_6 (a : Nat) (i : Nat → Int32) (p : Nat → Option Nat) : qflds 8 i (va_up p 6 (some a)) = (qflds 8 i p).set 6 (.ref a) := rfl
theorem ft_X8_6 : qTY 8 6 true := by
  intro C T N h
  cases h
  exact ⟨rfl, rfl, .array .int, by decide +kernel, fun x => ⟨rfl, rfl⟩⟩
theorem fn_X8_6 (i : Nat → Int32) (p : Nat → Option Nat) : 6 < (qflds 8 i p).length := by show 6 < 35; decide
theorem fg_X8_7 (i : Nat → Int32) (p : Nat → Option Nat) : (qflds 8 i p)[7]? = some (va_rf (p 7)) := rfl
theorem fs_X8_7 (a : Nat) (i : Nat → Int32) (p : Nat → Option Nat) : qflds 8 i (va_up p 7 (some a)) = (qflds 8 i p).set 7 (.ref a) := rfl
theorem ft_X8_7 : qTY 8 7 true := by
  intro C T N h
  cases h
  exact ⟨rfl, rfl, .array .int, by decide +kernel, fun x => ⟨rfl, rfl⟩⟩
theorem fn_X8_7 (i : Nat → Int32) (p : Nat → Option Nat) : 7 < (qflds 8 i p).length := by show 7 < 35; decide
theorem fg_X8_8 (i : Nat → Int32) (p : Nat → Option Nat) : (qflds 8 i p)[8]? = some (va_rf (p 8)) := rfl
theorem fs_X8_8 (a : Nat) (i : Nat → Int32) (p : Nat → Option Nat) : qflds 8 i (va_up p 8 (some a)) = (qflds 8 i p).set 8 (.ref a) := rfl
theorem ft_X8_8 : qTY 8 8 true := by
  intro C T N h
  cases h
  exact ⟨rfl, rfl, .array .int, by decide +kernel, fun x => ⟨rfl, rfl⟩⟩
theorem fn_X8_8 (i : Nat → Int32) (p : Nat → Option Nat) : 8 < (qflds 8 i p).length := by show 8 < 35; decide
theorem fg_X8_9 (i : Nat → Int32) (p : Nat → Option Nat) : (qflds 8 i p)[9]? = some (.int (i 9)) := rfl
theorem fs_X8_9 (v : Int32) (i : Nat → Int32) (p : Nat → Option Nat) : qflds 8 (upd i 9 v) p = (qflds 8 i p).set 9 (.int v) := rfl
theorem ft_X8_9 (C : String) (T : u_T) (N : Nat) (h : vwCl[8]? = some (C, T, N)) : (T 9).2.2.2 = false ∧ parseFieldDescriptor (T 9).2.2.1 = some .int := by cases h; exact ⟨rfl, by decide +kernel⟩
theorem fn_X8_9 (i : Nat → Int32) (p : Nat → Option Nat) : 9 < (qflds 8 i p).length := by show 9 < 35; decide
theorem fg_X8_10 (i : Nat → Int32) (p : Nat → Option Nat) : (qflds 8 i p)[10]? = some (.int (i 10)) := rfl
theorem fs_X8_10 (v : Int32) (i : Nat → Int32) (p : Nat → Option Nat) : qflds 8 (upd i 10 v) p = (qflds 8 i p).set 10 (.int v) := rfl
theorem ft_X8_10 (C : String) (T : u_T) (N : Nat) (h : vwCl[8]? = some (C, T, N)) : (T 10).2.2.2 = false ∧ parseFieldDescriptor (T 10).2.2.1 = some .int := by cases h; exact ⟨rfl, by decide +kernel⟩
theorem fn_X8_10 (i : Nat → Int32) (p : Nat → Option Nat) : 10 < (qflds 8 i p).length := by show 10 < 35; decide
theorem fg_X8_11 (i : Nat → Int32) (p : Nat → Option Nat) : (qflds 8 i p)[11]? = some (va_rf (p 11)) := rfl
theorem fs_X8_11 (a : Nat) (i : Nat → Int32) (p : Nat → Option Nat) : qflds 8 i (va_up p 11 (some a)) = (qflds 8 i p).set 11 (.ref a) := rfl
theorem ft_X8_11 : qTY 8 11 true := by
  intro C T N h
  cases h
  exact ⟨rfl, rfl, .array .int, by decide +kernel, fun x => ⟨rfl, rfl⟩⟩
theorem fn_X8_11 (i : Nat → Int32) (p : Nat → Option Nat) : 11 < (qflds 8 i p).length := by show 11 < 35; decide
theorem fg_X8_12 (i : Nat → Int32) (p : Nat → Option Nat) : (qflds 8 i p)[12]? = some (va_rf (p 12)) := rfl
theorem fs_X8_12 (a : Nat) (i : Nat → Int32) (p : Nat → Option Nat) : qflds 8 i (va_up p 12 (some a)) = (qflds 8 i p).set 12 (.ref a) := rfl
theorem ft_X8_12 : qTY 8 12 true := by
  intro C T N h
  cases h
  exact ⟨rfl, rfl, .array .int, by decide +kernel, fun x => ⟨rfl, rfl⟩⟩
theorem fn_X8_12 (i : Nat → Int32) (p : Nat → Option Nat) : 12 < (qflds 8 i p).length := by show 12 < 35; decide
theorem fg_X8_13 (i : Nat → Int32) (p : Nat → Option Nat) : (qflds 8 i p)[13]? = some (va_rf (p 13)) := rfl
theorem fs_X8_13 (a : Nat) (i : Nat → Int32) (p : Nat → Option Nat) : qflds 8 i (va_up p 13 (some a)) = (qflds 8 i p).set 13 (.ref a) := rfl
theorem ft_X8_13 : qTY 8 13 true := by
  intro C T N h
  cases h
  exact ⟨rfl, rfl, .array .int, by decide +kernel, fun x => ⟨rfl, rfl⟩⟩
theorem fn_X8_13 (i : Nat → Int32) (p : Nat → Option Nat) : 13 < (qflds 8 i p).length := by show 13 < 35; decide
theorem fg_X8_14 (i : Nat → Int32) (p : Nat → Option Nat) : (qflds 8 i p)[14]? = some (va_rf (p 14)) := rfl
theorem fs_X8_14 (a : Nat) (i : Nat → Int32) (p : Nat → Option Nat) : qflds 8 i (va_up p 14 (some a)) = (qflds 8 i p).set 14 (.ref a) := rfl
theorem ft_X8_14 : qTY 8 14 true := by
  intro C T N h
  cases h
  exact ⟨rfl, rfl, .array .int, by decide +kernel, fun x => ⟨rfl, rfl⟩⟩
theorem fn_X8_14 (i : Nat → Int32) (p : Nat → Option Nat) : 14 < (qflds 8 i p).length := by show 14 < 35; decide
theorem fg_X8_15 (i : Nat → Int32) (p : Nat → Option Nat) : (qflds 8 i p)[15]? = some (va_rf (p 15)) := rfl
theorem fs_X8_15 (a : Nat) (i : Nat → Int32) (p : Nat → Option Nat) : qflds 8 i (va_up p 15 (some a)) = (qflds 8 i p).set 15 (.ref a) := rfl
theorem ft_X8_15 : qTY 8 15 true := by
  intro C T N h
  cases h
  exact ⟨rfl, rfl, .array .int, by decide +kernel, fun x => ⟨rfl, rfl⟩⟩
theorem fn_X8_15 (i : Nat → Int32) (p : Nat → Option Nat) : 15 < (qflds 8 i p).length := by show 15 < 35; decide
theorem fg_X8_16 (i : Nat → Int32) (p : Nat → Option Nat) : (qflds 8 i p)[16]? = some (va_rf (p 16)) := rfl
theorem fs_X8_16 (a : Nat) (i : Nat → Int32) (p : Nat → Option Nat) : qflds 8 i (va_up p 16 (some a)) = (qflds 8 i p).set 16 (.ref a) := rfl
theorem ft_X8_16 : qTY 8 16 true := by
  intro C T N h
  cases h
  exact ⟨rfl, rfl, .array .int, by decide +kernel, fun x => ⟨rfl, rfl⟩⟩
theorem fn_X8_16 (i : Nat → Int32) (p : Nat → Option Nat) : 16 < (qflds 8 i p).length := by show 16 < 35; decide
theorem fg_X8_17 (i : Nat → Int32) (p : Nat → Option Nat) : (qflds 8 i p)[17]? = some (va_rf (p 17)) := rfl
theorem fs_X8_17 (a : Nat) (i : Nat → Int32) (p : Nat → Option Nat) : qflds 8 i (va_up p 17 (some a)) = (qflds 8 i p).set 17 (.ref a) := rfl
theorem ft_X8_17 : qTY 8 17 true := by
  intro C T N h
  cases h
  exact ⟨rfl, rfl, .array .int, by decide +kernel, fun x => ⟨rfl, rfl⟩⟩
theorem fn_X8_17 (i : Nat → Int32) (p : Nat → Option Nat) : 17 < (qflds 8 i p).length := by show 17 < 35; decide
theorem fg_X8_18 (i : Nat → Int32) (p : Nat → Option Nat) : (qflds 8 i p)[18]? = some (va_rf (p 18)) := rfl
theorem fs_X8_18 (a : Nat) (i : Nat → Int32) (p : Nat → Option Nat) : qflds 8 i (va_up p 18 (some a)) = (qflds 8 i p).set 18 (.ref a) := rfl
theorem ft_X8_18 : qTY 8 18 true := by
  intro C T N h
  cases h
  exact ⟨rfl, rfl, .array .int, by decide +kernel, fun x => ⟨rfl, rfl⟩⟩
theorem fn_X8_18 (i : Nat → Int32) (p : Nat → Option Nat) : 18 < (qflds 8 i p).length := by show 18 < 35; decide
theorem fg_X8_19 (i : Nat → Int32) (p : Nat → Option Nat) : (qflds 8 i p)[19]? = some (va_rf (p 19)) := rfl
theorem fs_X8_19 (a : Nat) (i : Nat → Int32) (p : Nat → Option Nat) : qflds 8 i (va_up p 19 (some a)) = (qflds 8 i p).set 19 (.ref a) := rfl
theorem ft_X8_19 : qTY 8 19 true := by
  intro C T N h
  cases h
  exact ⟨rfl, rfl, .array .int, by decide +kernel, fun x => ⟨rfl, rfl⟩⟩
theorem fn_X8_19 (i : Nat → Int32) (p : Nat → Option Nat) : 19 < (qflds 8 i p).length := by show 19 < 35; decide
theorem fg_X8_20 (i : Nat → Int32) (p : Nat → Option Nat) : (qflds 8 i p)[20]? = some (.int (i 20)) := rfl
theorem fs_X8_20 (v : Int32) (i : Nat → Int32) (p : Nat → Option Nat) : qflds 8 (upd i 20 v) p = (qflds 8 i p).set 20 (.int v) := rfl
theorem ft_X8_20 (C : String) (T : u_T) (N : Nat) (h : vwCl[8]? = some (C, T, N)) : (T 20).2.2.2 = false ∧ parseFieldDescriptor (T 20).2.2.1 = some .int := by cases h; exact ⟨rfl, by decide +kernel⟩
theorem fn_X8_20 (i : Nat → Int32) (p : Nat → Option Nat) : 20 < (qflds 8 i p).length := by show 20 < 35; decide
theorem fg_X8_21 (i : Nat → Int32) (p : Nat → Option Nat) : (qflds 8 i p)[21]? = some (va_rf (p 21)) := rfl
theorem fs_X8_21 (a : Nat) (i : Nat → Int32) (p : Nat → Option Nat) : qflds 8 i (va_up p 21 (some a)) = (qflds 8 i p).set 21 (.ref a) := rfl
theorem ft_X8_21 : qTY 8 21 true := by
  intro C T N h
  cases h
  exact ⟨rfl, rfl, .array .int, by decide +kernel, fun x => ⟨rfl, rfl⟩⟩
theorem fn_X8_21 (i : Nat → Int32) (p : Nat → Option Nat) : 21 < (qflds 8 i p).length := by show 21 < 35; decide
theorem fg_X8_22 (i : Nat → Int32) (p : Nat → Option Nat) : (qflds 8 i p)[22]? = some (va_rf (p 22)) := rfl
theorem fs_X8_22 (a : Nat) (i : Nat → Int32) (p : Nat → Option Nat) : qflds 8 i (va_up p 22 (some a)) = (qflds 8 i p).set 22 (.ref a) := rfl
theorem ft_X8_22 : qTY 8 22 true := by
  intro C T N h
  cases h
  exact ⟨rfl, rfl, .array .int, by decide +kernel, fun x => ⟨rfl, rfl⟩⟩
theorem fn_X8_22 (i : Nat → Int32) (p : Nat → Option Nat) : 22 < (qflds 8 i p).length := by show 22 < 35; decide
theorem fg_X8_23 (i : Nat → Int32) (p : Nat → Option Nat) : (qflds 8 i p)[23]? = some (va_rf (p 23)) := rfl
theorem fs_X8_23 (a : Nat) (i : Nat → Int32) (p : Nat → Option Nat) : qflds 8 i (va_up p 23 (some a)) = (qflds 8 i p).set 23 (.ref a) := rfl
theorem ft_X8_23 : qTY 8 23 true := by
  intro C T N h
  cases h
  exact ⟨rfl, rfl, .array .boolean, by decide +kernel, fun x => ⟨rfl, rfl⟩⟩
theorem fn_X8_23 (i : Nat → Int32) (p : Nat → Option Nat) : 23 < (qflds 8 i p).length := by show 23 < 35; decide
theorem fg_X8_24 (i : Nat → Int32) (p : Nat → Option Nat) : (qflds 8 i p)[24]? = some (va_rf (p 24)) := rfl
theorem fs_X8_24 (a : Nat) (i : Nat → Int32) (p : Nat → Option Nat) : qflds 8 i (va_up p 24 (some a)) = (qflds 8 i p).set 24 (.ref a) := rfl
theorem ft_X8_24 : qTY 8 24 true := by
  intro C T N h
  cases h
  exact ⟨rfl, rfl, .array .boolean, by decide +kernel, fun x => ⟨rfl, rfl⟩⟩
theorem fn_X8_24 (i : Nat → Int32) (p : Nat → Option Nat) : 24 < (qflds 8 i p).length := by show 24 < 35; decide
theorem fg_X8_25 (i : Nat → Int32) (p : Nat → Option Nat) : (qflds 8 i p)[25]? = some (.int (i 25)) := rfl
theorem fs_X8_25 (v : Int32) (i : Nat → Int32) (p : Nat → Option Nat) : qflds 8 (upd i 25 v) p = (qflds 8 i p).set 25 (.int v) := rfl
theorem ft_X8_25 (C : String) (T : u_T) (N : Nat) (h : vwCl[8]? = some (C, T, N)) : (T 25).2.2.2 = false ∧ parseFieldDescriptor (T 25).2.2.1 = some .int := by cases h; exact ⟨rfl, by decide +kernel⟩
theorem fn_X8_25 (i : Nat → Int32) (p : Nat → Option Nat) : 25 < (qflds 8 i p).length := by show 25 < 35; decide
theorem fg_X8_26 (i : Nat → Int32) (p : Nat → Option Nat) : (qflds 8 i p)[26]? = some (.int (i 26)) := rfl
theorem fs_X8_26 (v : Int32) (i : Nat → Int32) (p : Nat → Option Nat) : qflds 8 (upd i 26 v) p = (qflds 8 i p).set 26 (.int v) := rfl
theorem ft_X8_26 (C : String) (T : u_T) (N : Nat) (h : vwCl[8]? = some (C, T, N)) : (T 26).2.2.2 = false ∧ parseFieldDescriptor (T 26).2.2.1 = some .int := by cases h; exact ⟨rfl, by decide +kernel⟩
theorem fn_X8_26 (i : Nat → Int32) (p : Nat → Option Nat) : 26 < (qflds 8 i p).length := by show 26 < 35; decide
theorem fg_X8_27 (i : Nat → Int32) (p : Nat → Option Nat) : (qflds 8 i p)[27]? = some (va_rf (p 27)) := rfl
theorem fs_X8_27 (a : Nat) (i : Nat → Int32) (p : Nat → Option Nat) : qflds 8 i (va_up p 27 (some a)) = (qflds 8 i p).set 27 (.ref a) := rfl
theorem ft_X8_27 : qTY 8 27 true := by
  intro C T N h
  cases h
  exact ⟨rfl, rfl, .array .int, by decide +kernel, fun x => ⟨rfl, rfl⟩⟩
theorem fn_X8_27 (i : Nat → Int32) (p : Nat → Option Nat) : 27 < (qflds 8 i p).length := by show 27 < 35; decide
theorem fg_X8_28 (i : Nat → Int32) (p : Nat → Option Nat) : (qflds 8 i p)[28]? = some (va_rf (p 28)) := rfl
theorem fs_X8_28 (a : Nat) (i : Nat → Int32) (p : Nat → Option Nat) : qflds 8 i (va_up p 28 (some a)) = (qflds 8 i p).set 28 (.ref a) := rfl
theorem ft_X8_28 : qTY 8 28 true := by
  intro C T N h
  cases h
  exact ⟨rfl, rfl, .array .int, by decide +kernel, fun x => ⟨rfl, rfl⟩⟩
theorem fn_X8_28 (i : Nat → Int32) (p : Nat → Option Nat) : 28 < (qflds 8 i p).length := by show 28 < 35; decide
theorem fg_X8_29 (i : Nat → Int32) (p : Nat → Option Nat) : (qflds 8 i p)[29]? = some (va_rf (p 29)) := rfl
theorem fs_X8_29 (a : Nat) (i : Nat → Int32) (p : Nat → Option Nat) : qflds 8 i (va_up p 29 (some a)) = (qflds 8 i p).set 29 (.ref a) := rfl
theorem ft_X8_29 : qTY 8 29 true := by
  intro C T N h
  cases h
  exact ⟨rfl, rfl, .array .int, by decide +kernel, fun x => ⟨rfl, rfl⟩⟩
theorem fn_X8_29 (i : Nat → Int32) (p : Nat → Option Nat) : 29 < (qflds 8 i p).length := by show 29 < 35; decide
theorem fg_X8_30 (i : Nat → Int32) (p : Nat → Option Nat) : (qflds 8 i p)[30]? = some (va_rf (p 30)) := rfl
theorem fs_X8_30 (a : Nat) (i : Nat → Int32) (p : Nat → Option Nat) : qflds 8 i (va_up p 30 (some a)) = (qflds 8 i p).set 30 (.ref a) := rfl
theorem ft_X8_30 : qTY 8 30 true := by
  intro C T N h
  cases h
  exact ⟨rfl, rfl, .array .boolean, by decide +kernel, fun x => ⟨rfl, rfl⟩⟩
theorem fn_X8_30 (i : Nat → Int32) (p : Nat → Option Nat) : 30 < (qflds 8 i p).length := by show 30 < 35; decide
theorem fg_X8_31 (i : Nat → Int32) (p : Nat → Option Nat) : (qflds 8 i p)[31]? = some (va_rf (p 31)) := rfl
theorem fs_X8_31 (a : Nat) (i : Nat → Int32) (p : Nat → Option Nat) : qflds 8 i (va_up p 31 (some a)) = (qflds 8 i p).set 31 (.ref a) := rfl
theorem ft_X8_31 : qTY 8 31 true := by
  intro C T N h
  cases h
  exact ⟨rfl, rfl, .array .boolean, by decide +kernel, fun x => ⟨rfl, rfl⟩⟩
theorem fn_X8_31 (i : Nat → Int32) (p : Nat → Option Nat) : 31 < (qflds 8 i p).length := by show 31 < 35; decide
theorem fg_X8_32 (i : Nat → Int32) (p : Nat → Option Nat) : (qflds 8 i p)[32]? = some (va_rf (p 32)) := rfl
theorem fs_X8_32 (a : Nat) (i : Nat → Int32) (p : Nat → Option Nat) : qflds 8 i (va_up p 32 (some a)) = (qflds 8 i p).set 32 (.ref a) := rfl
theorem ft_X8_32 : qTY 8 32 true := by
  intro C T N h
  cases h
  exact ⟨rfl, rfl, .array .boolean, by decide +kernel, fun x => ⟨rfl, rfl⟩⟩
theorem fn_X8_32 (i : Nat → Int32) (p : Nat → Option Nat) : 32 < (qflds 8 i p).length := by show 32 < 35; decide
theorem fg_X8_33 (i : Nat → Int32) (p : Nat → Option Nat) : (qflds 8 i p)[33]? = some (.int (i 33)) := rfl
theorem fs_X8_33 (v : Int32) (i : Nat → Int32) (p : Nat → Option Nat) : qflds 8 (upd i 33 v) p = (qflds 8 i p).set 33 (.int v) := rfl
theorem ft_X8_33 (C : String) (T : u_T) (N : Nat) (h : vwCl[8]? = some (C, T, N)) : (T 33).2.2.2 = false ∧ parseFieldDescriptor (T 33).2.2.1 = some .int := by cases h; exact ⟨rfl, by decide +kernel⟩
theorem fn_X8_33 (i : Nat → Int32) (p : Nat → Option Nat) : 33 < (qflds 8 i p).length := by show 33 < 35; decide
theorem fg_X8_34 (i : Nat → Int32) (p : Nat → Option Nat) : (qflds 8 i p)[34]? = some (va_rf (p 34)) := rfl
theorem fs_X8_34 (a : Nat) (i : Nat → Int32) (p : Nat → Option Nat) : qflds 8 i (va_up p 34 (some a)) = (qflds 8 i p).set 34 (.ref a) := rfl
theorem ft_X8_34 : qTY 8 34 true := by
  intro C T N h
  cases h
  exact ⟨rfl, rfl, .array .int, by decide +kernel, fun x => ⟨rfl, rfl⟩⟩
theorem fn_X8_34 (i : Nat → Int32) (p : Nat → Option Nat) : 34 < (qflds 8 i p).length := by show 34 < 35; decide
set_option maxRecDepth 20000 in
theorem fl_X3_11 : qFL RX3 11 3 0 := ⟨RX3, TX3, 1, tyX3, rfl, by decide, (wW_at 108 (by rfl) (by rfl)), in_X3, tyX3_ok, nmX3⟩
set_option maxRecDepth 20000 in
theorem fl_X2_41 : qFL RX2 41 2 0 := ⟨RX2, TX2, 9, tyX2, rfl, by decide, (wW_at 126 (by rfl) (by rfl)), in_X2, tyX2_ok, nmX2⟩
set_option maxRecDepth 20000 in
theorem fl_X4_67 : qFL RX4 67 2 0 := ⟨RX2, TX2, 9, tyX2, rfl, by decide, (wW_at 127 (by rfl) (by rfl)), in_X2, tyX2_ok, nmX2⟩
set_option maxRecDepth 20000 in
theorem fl_X2_11 : qFL RX2 11 2 1 := ⟨RX2, TX2, 9, tyX2, rfl, by decide, (wW_at 128 (by rfl) (by rfl)), in_X2, tyX2_ok, nmX2⟩
set_option maxRecDepth 20000 in
theorem fl_X4_70 : qFL RX4 70 2 1 := ⟨RX2, TX2, 9, tyX2, rfl, by decide, (wW_at 129 (by rfl) (by rfl)), in_X2, tyX2_ok, nmX2⟩
set_option maxRecDepth 20000 in
theorem fl_X2_62 : qFL RX2 62 2 2 := ⟨RX2, TX2, 9, tyX2, rfl, by decide, (wW_at 130 (by rfl) (by rfl)), in_X2, tyX2_ok, nmX2⟩
set_option maxRecDepth 20000 in
theorem fl_X2_48 : qFL RX2 48 2 3 := ⟨RX2, TX2, 9, tyX2, rfl, by decide, (wW_at 131 (by rfl) (by rfl)), in_X2, tyX2_ok, nmX2⟩
set_option maxRecDepth 20000 in
theorem fl_X2_85 : qFL RX2 85 2 4 := ⟨RX2, TX2, 9, tyX2, rfl, by decide, (wW_at 132 (by rfl) (by rfl)), in_X2, tyX2_ok, nmX2⟩
set_option maxRecDepth 20000 in
theorem fl_X2_15 : qFL RX2 15 2 5 := ⟨RX2, TX2, 9, tyX2, rfl, by decide, (wW_at 133 (by rfl) (by rfl)), in_X2, tyX2_ok, nmX2⟩
set_option maxRecDepth 20000 in
theorem fl_X2_18 : qFL RX2 18 2 6 := ⟨RX2, TX2, 9, tyX2, rfl, by decide, (wW_at 134 (by rfl) (by rfl)), in_X2, tyX2_ok, nmX2⟩
set_option maxRecDepth 20000 in
theorem fl_X2_21 : qFL RX2 21 2 7 := ⟨RX2, TX2, 9, tyX2, rfl, by decide, (wW_at 135 (by rfl) (by rfl)), in_X2, tyX2_ok, nmX2⟩
set_option maxRecDepth 20000 in
theorem fl_X2_24 : qFL RX2 24 2 8 := ⟨RX2, TX2, 9, tyX2, rfl, by decide, (wW_at 136 (by rfl) (by rfl)), in_X2, tyX2_ok, nmX2⟩
set_option maxRecDepth 20000 in
theorem fl_X0_9 : qFL RX0 9 0 0 := ⟨RX0, TX0, 6, tyX0, rfl, by decide, (wW_at 162 (by rfl) (by rfl)), in_X0, tyX0_ok, nmX0⟩
set_option maxRecDepth 20000 in
theorem fl_X4_73 : qFL RX4 73 0 0 := ⟨RX0, TX0, 6, tyX0, rfl, by decide, (wW_at 163 (by rfl) (by rfl)), in_X0, tyX0_ok, nmX0⟩
set_option maxRecDepth 20000 in
theorem fl_X0_39 : qFL RX0 39 0 1 := ⟨RX0, TX0, 6, tyX0, rfl, by decide, (wW_at 164 (by rfl) (by rfl)), in_X0, tyX0_ok, nmX0⟩
set_option maxRecDepth 20000 in
theorem fl_X4_92 : qFL RX4 92 0 1 := ⟨RX0, TX0, 6, tyX0, rfl, by decide, (wW_at 165 (by rfl) (by rfl)), in_X0, tyX0_ok, nmX0⟩
set_option maxRecDepth 20000 in
theorem fl_X0_25 : qFL RX0 25 0 2 := ⟨RX0, TX0, 6, tyX0, rfl, by decide, (wW_at 166 (by rfl) (by rfl)), in_X0, tyX0_ok, nmX0⟩
set_option maxRecDepth 20000 in
theorem fl_X4_95 : qFL RX4 95 0 2 := ⟨RX0, TX0, 6, tyX0, rfl, by decide, (wW_at 167 (by rfl) (by rfl)), in_X0, tyX0_ok, nmX0⟩
set_option maxRecDepth 20000 in
theorem fl_X0_21 : qFL RX0 21 0 3 := ⟨RX0, TX0, 6, tyX0, rfl, by decide, (wW_at 168 (by rfl) (by rfl)), in_X0, tyX0_ok, nmX0⟩
set_option maxRecDepth 20000 in
theorem fl_X0_15 : qFL RX0 15 0 4 := ⟨RX0, TX0, 6, tyX0, rfl, by decide, (wW_at 169 (by rfl) (by rfl)), in_X0, tyX0_ok, nmX0⟩
set_option maxRecDepth 20000 in
theorem fl_X0_18 : qFL RX0 18 0 5 := ⟨RX0, TX0, 6, tyX0, rfl, by decide, (wW_at 170 (by rfl) (by rfl)), in_X0, tyX0_ok, nmX0⟩
set_option maxRecDepth 20000 in
theorem fl_X1_18 : qFL RX1 18 1 0 := ⟨RX1, TX1, 3, tyX1, rfl, by decide, (wW_at 190 (by rfl) (by rfl)), in_X1, tyX1_ok, nmX1⟩
set_option maxRecDepth 20000 in
theorem fl_X4_102 : qFL RX4 102 1 0 := ⟨RX1, TX1, 3, tyX1, rfl, by decide, (wW_at 191 (by rfl) (by rfl)), in_X1, tyX1_ok, nmX1⟩
set_option maxRecDepth 20000 in
theorem fl_X1_9 : qFL RX1 9 1 1 := ⟨RX1, TX1, 3, tyX1, rfl, by decide, (wW_at 192 (by rfl) (by rfl)), in_X1, tyX1_ok, nmX1⟩
set_option maxRecDepth 20000 in
theorem fl_X4_105 : qFL RX4 105 1 1 := ⟨RX1, TX1, 3, tyX1, rfl, by decide, (wW_at 193 (by rfl) (by rfl)), in_X1, tyX1_ok, nmX1⟩
set_option maxRecDepth 20000 in
theorem fl_X1_15 : qFL RX1 15 1 2 := ⟨RX1, TX1, 3, tyX1, rfl, by decide, (wW_at 194 (by rfl) (by rfl)), in_X1, tyX1_ok, nmX1⟩
set_option maxRecDepth 20000 in
theorem fl_X7_48 : qFL RX7 48 5 0 := ⟨RX5, TX5, 6, tyX5, rfl, by decide, (wW_at 210 (by rfl) (by rfl)), in_X5, tyX5_ok, nmX5⟩
set_option maxRecDepth 20000 in
theorem fl_X5_36 : qFL RX5 36 5 0 := ⟨RX5, TX5, 6, tyX5, rfl, by decide, (wW_at 211 (by rfl) (by rfl)), in_X5, tyX5_ok, nmX5⟩
set_option maxRecDepth 20000 in
theorem fl_X5_30 : qFL RX5 30 5 1 := ⟨RX5, TX5, 6, tyX5, rfl, by decide, (wW_at 212 (by rfl) (by rfl)), in_X5, tyX5_ok, nmX5⟩
set_option maxRecDepth 20000 in
theorem fl_X2_31 : qFL RX2 31 5 1 := ⟨RX5, TX5, 6, tyX5, rfl, by decide, (wW_at 213 (by rfl) (by rfl)), in_X5, tyX5_ok, nmX5⟩
set_option maxRecDepth 20000 in
theorem fl_X7_66 : qFL RX7 66 5 1 := ⟨RX5, TX5, 6, tyX5, rfl, by decide, (wW_at 214 (by rfl) (by rfl)), in_X5, tyX5_ok, nmX5⟩
set_option maxRecDepth 20000 in
theorem fl_X6_111 : qFL RX6 111 5 1 := ⟨RX5, TX5, 6, tyX5, rfl, by decide, (wW_at 215 (by rfl) (by rfl)), in_X5, tyX5_ok, nmX5⟩
set_option maxRecDepth 20000 in
theorem fl_X4_83 : qFL RX4 83 5 1 := ⟨RX5, TX5, 6, tyX5, rfl, by decide, (wW_at 216 (by rfl) (by rfl)), in_X5, tyX5_ok, nmX5⟩
set_option maxRecDepth 20000 in
theorem fl_X5_9 : qFL RX5 9 5 2 := ⟨RX5, TX5, 6, tyX5, rfl, by decide, (wW_at 217 (by rfl) (by rfl)), in_X5, tyX5_ok, nmX5⟩
set_option maxRecDepth 20000 in
theorem fl_X2_77 : qFL RX2 77 5 2 := ⟨RX5, TX5, 6, tyX5, rfl, by decide, (wW_at 218 (by rfl) (by rfl)), in_X5, tyX5_ok, nmX5⟩
set_option maxRecDepth 20000 in
theorem fl_X6_88 : qFL RX6 88 5 2 := ⟨RX5, TX5, 6, tyX5, rfl, by decide, (wW_at 219 (by rfl) (by rfl)), in_X5, tyX5_ok, nmX5⟩
set_option maxRecDepth 20000 in
theorem fl_X4_112 : qFL RX4 112 5 2 := ⟨RX5, TX5, 6, tyX5, rfl, by decide, (wW_at 220 (by rfl) (by rfl)), in_X5, tyX5_ok, nmX5⟩
set_option maxRecDepth 20000 in
theorem fl_X5_15 : qFL RX5 15 5 3 := ⟨RX5, TX5, 6, tyX5, rfl, by decide, (wW_at 221 (by rfl) (by rfl)), in_X5, tyX5_ok, nmX5⟩
set_option maxRecDepth 20000 in
theorem fl_X6_94 : qFL RX6 94 5 3 := ⟨RX5, TX5, 6, tyX5, rfl, by decide, (wW_at 222 (by rfl) (by rfl)), in_X5, tyX5_ok, nmX5⟩
set_option maxRecDepth 20000 in
theorem fl_X4_86 : qFL RX4 86 5 3 := ⟨RX5, TX5, 6, tyX5, rfl, by decide, (wW_at 223 (by rfl) (by rfl)), in_X5, tyX5_ok, nmX5⟩
set_option maxRecDepth 20000 in
theorem fl_X5_18 : qFL RX5 18 5 4 := ⟨RX5, TX5, 6, tyX5, rfl, by decide, (wW_at 224 (by rfl) (by rfl)), in_X5, tyX5_ok, nmX5⟩
set_option maxRecDepth 20000 in
theorem fl_X6_91 : qFL RX6 91 5 4 := ⟨RX5, TX5, 6, tyX5, rfl, by decide, (wW_at 225 (by rfl) (by rfl)), in_X5, tyX5_ok, nmX5⟩
set_option maxRecDepth 20000 in
theorem fl_X4_89 : qFL RX4 89 5 4 := ⟨RX5, TX5, 6, tyX5, rfl, by decide, (wW_at 226 (by rfl) (by rfl)), in_X5, tyX5_ok, nmX5⟩
set_option maxRecDepth 20000 in
theorem fl_X5_21 : qFL RX5 21 5 5 := ⟨RX5, TX5, 6, tyX5, rfl, by decide, (wW_at 227 (by rfl) (by rfl)), in_X5, tyX5_ok, nmX5⟩
set_option maxRecDepth 20000 in
theorem fl_X6_124 : qFL RX6 124 5 5 := ⟨RX5, TX5, 6, tyX5, rfl, by decide, (wW_at 228 (by rfl) (by rfl)), in_X5, tyX5_ok, nmX5⟩
set_option maxRecDepth 20000 in
theorem fl_X4_11 : qFL RX4 11 4 0 := ⟨RX4, TX4, 7, tyX4, rfl, by decide, (wW_at 242 (by rfl) (by rfl)), in_X4, tyX4_ok, nmX4⟩
set_option maxRecDepth 20000 in
theorem fl_X4_17 : qFL RX4 17 4 1 := ⟨RX4, TX4, 7, tyX4, rfl, by decide, (wW_at 243 (by rfl) (by rfl)), in_X4, tyX4_ok, nmX4⟩
set_option maxRecDepth 20000 in
theorem fl_X4_21 : qFL RX4 21 4 2 := ⟨RX4, TX4, 7, tyX4, rfl, by decide, (wW_at 244 (by rfl) (by rfl)), in_X4, tyX4_ok, nmX4⟩
set_option maxRecDepth 20000 in
theorem fl_X4_27 : qFL RX4 27 4 3 := ⟨RX4, TX4, 7, tyX4, rfl, by decide, (wW_at 245 (by rfl) (by rfl)), in_X4, tyX4_ok, nmX4⟩
set_option maxRecDepth 20000 in
theorem fl_X4_34 : qFL RX4 34 4 4 := ⟨RX4, TX4, 7, tyX4, rfl, by decide, (wW_at 246 (by rfl) (by rfl)), in_X4, tyX4_ok, nmX4⟩
set_option maxRecDepth 20000 in
theorem fl_X4_41 : qFL RX4 41 4 5 := ⟨RX4, TX4, 7, tyX4, rfl, by decide, (wW_at 247 (by rfl) (by rfl)), in_X4, tyX4_ok, nmX4⟩
set_option maxRecDepth 20000 in
theorem fl_X4_50 : qFL RX4 50 4 6 := ⟨RX4, TX4, 7, tyX4, rfl, by decide, (wW_at 248 (by rfl) (by rfl)), in_X4, tyX4_ok, nmX4⟩
set_option maxRecDepth 20000 in
theorem fl_X6_11 : qFL RX6 11 6 0 := ⟨RX6, TX6, 16, tyX6, rfl, by decide, (wW_at 271 (by rfl) (by rfl)), in_X6, tyX6_ok, nmX6⟩
set_option maxRecDepth 20000 in
theorem fl_X6_42 : qFL RX6 42 6 1 := ⟨RX6, TX6, 16, tyX6, rfl, by decide, (wW_at 272 (by rfl) (by rfl)), in_X6, tyX6_ok, nmX6⟩
set_option maxRecDepth 20000 in
theorem fl_X6_46 : qFL RX6 46 6 2 := ⟨RX6, TX6, 16, tyX6, rfl, by decide, (wW_at 273 (by rfl) (by rfl)), in_X6, tyX6_ok, nmX6⟩
set_option maxRecDepth 20000 in
theorem fl_X6_49 : qFL RX6 49 6 3 := ⟨RX6, TX6, 16, tyX6, rfl, by decide, (wW_at 274 (by rfl) (by rfl)), in_X6, tyX6_ok, nmX6⟩
set_option maxRecDepth 20000 in
theorem fl_X6_17 : qFL RX6 17 6 4 := ⟨RX6, TX6, 16, tyX6, rfl, by decide, (wW_at 275 (by rfl) (by rfl)), in_X6, tyX6_ok, nmX6⟩
set_option maxRecDepth 20000 in
theorem fl_X6_21 : qFL RX6 21 6 5 := ⟨RX6, TX6, 16, tyX6, rfl, by decide, (wW_at 276 (by rfl) (by rfl)), in_X6, tyX6_ok, nmX6⟩
set_option maxRecDepth 20000 in
theorem fl_X6_56 : qFL RX6 56 6 6 := ⟨RX6, TX6, 16, tyX6, rfl, by decide, (wW_at 277 (by rfl) (by rfl)), in_X6, tyX6_ok, nmX6⟩
set_option maxRecDepth 20000 in
theorem fl_X6_71 : qFL RX6 71 6 7 := ⟨RX6, TX6, 16, tyX6, rfl, by decide, (wW_at 278 (by rfl) (by rfl)), in_X6, tyX6_ok, nmX6⟩
set_option maxRecDepth 20000 in
theorem fl_X6_24 : qFL RX6 24 6 8 := ⟨RX6, TX6, 16, tyX6, rfl, by decide, (wW_at 279 (by rfl) (by rfl)), in_X6, tyX6_ok, nmX6⟩
set_option maxRecDepth 20000 in
theorem fl_X6_27 : qFL RX6 27 6 9 := ⟨RX6, TX6, 16, tyX6, rfl, by decide, (wW_at 280 (by rfl) (by rfl)), in_X6, tyX6_ok, nmX6⟩
set_option maxRecDepth 20000 in
theorem fl_X6_30 : qFL RX6 30 6 10 := ⟨RX6, TX6, 16, tyX6, rfl, by decide, (wW_at 281 (by rfl) (by rfl)), in_X6, tyX6_ok, nmX6⟩
set_option maxRecDepth 20000 in
theorem fl_X6_33 : qFL RX6 33 6 11 := ⟨RX6, TX6, 16, tyX6, rfl, by decide, (wW_at 282 (by rfl) (by rfl)), in_X6, tyX6_ok, nmX6⟩
set_option maxRecDepth 20000 in
theorem fl_X6_36 : qFL RX6 36 6 12 := ⟨RX6, TX6, 16, tyX6, rfl, by decide, (wW_at 283 (by rfl) (by rfl)), in_X6, tyX6_ok, nmX6⟩
set_option maxRecDepth 20000 in
theorem fl_X6_85 : qFL RX6 85 6 13 := ⟨RX6, TX6, 16, tyX6, rfl, by decide, (wW_at 284 (by rfl) (by rfl)), in_X6, tyX6_ok, nmX6⟩
set_option maxRecDepth 20000 in
theorem fl_X6_39 : qFL RX6 39 6 14 := ⟨RX6, TX6, 16, tyX6, rfl, by decide, (wW_at 285 (by rfl) (by rfl)), in_X6, tyX6_ok, nmX6⟩
set_option maxRecDepth 20000 in
theorem fl_X6_82 : qFL RX6 82 6 15 := ⟨RX6, TX6, 16, tyX6, rfl, by decide, (wW_at 286 (by rfl) (by rfl)), in_X6, tyX6_ok, nmX6⟩
set_option maxRecDepth 20000 in
theorem fl_X7_11 : qFL RX7 11 7 0 := ⟨RX7, TX7, 6, tyX7, rfl, by decide, (wW_at 321 (by rfl) (by rfl)), in_X7, tyX7_ok, nmX7⟩
set_option maxRecDepth 20000 in
theorem fl_X7_18 : qFL RX7 18 7 1 := ⟨RX7, TX7, 6, tyX7, rfl, by decide, (wW_at 322 (by rfl) (by rfl)), in_X7, tyX7_ok, nmX7⟩
set_option maxRecDepth 20000 in
theorem fl_X7_25 : qFL RX7 25 7 2 := ⟨RX7, TX7, 6, tyX7, rfl, by decide, (wW_at 323 (by rfl) (by rfl)), in_X7, tyX7_ok, nmX7⟩
set_option maxRecDepth 20000 in
theorem fl_X7_32 : qFL RX7 32 7 3 := ⟨RX7, TX7, 6, tyX7, rfl, by decide, (wW_at 324 (by rfl) (by rfl)), in_X7, tyX7_ok, nmX7⟩
set_option maxRecDepth 20000 in
theorem fl_X7_45 : qFL RX7 45 7 4 := ⟨RX7, TX7, 6, tyX7, rfl, by decide, (wW_at 325 (by rfl) (by rfl)), in_X7, tyX7_ok, nmX7⟩
set_option maxRecDepth 20000 in
theorem fl_X7_36 : qFL RX7 36 7 5 := ⟨RX7, TX7, 6, tyX7, rfl, by decide, (wW_at 326 (by rfl) (by rfl)), in_X7, tyX7_ok, nmX7⟩
set_option maxRecDepth 20000 in
theorem fl_X8_94 : qFL RX8 94 8 0 := ⟨RX8, TX8, 35, tyX8, rfl, by decide, (wW_at 780 (by rfl) (by rfl)), in_X8, tyX8_ok, nmX8⟩
set_option maxRecDepth 20000 in
theorem fl_X8_97 : qFL RX8 97 8 1 := ⟨RX8, TX8, 35, tyX8, rfl, by decide, (wW_at 781 (by rfl) (by rfl)), in_X8, tyX8_ok, nmX8⟩
set_option maxRecDepth 20000 in
theorem fl_X8_7 : qFL RX8 7 8 2 := ⟨RX8, TX8, 35, tyX8, rfl, by decide, (wW_at 782 (by rfl) (by rfl)), in_X8, tyX8_ok, nmX8⟩
set_option maxRecDepth 20000 in
theorem fl_X8_13 : qFL RX8 13 8 3 := ⟨RX8, TX8, 35, tyX8, rfl, by decide, (wW_at 783 (by rfl) (by rfl)), in_X8, tyX8_ok, nmX8⟩
set_option maxRecDepth 20000 in
theorem fl_X8_17 : qFL RX8 17 8 4 := ⟨RX8, TX8, 35, tyX8, rfl, by decide, (wW_at 784 (by rfl) (by rfl)), in_X8, tyX8_ok, nmX8⟩
set_option maxRecDepth 20000 in
theorem fl_X8_20 : qFL RX8 20 8 5 := ⟨RX8, TX8, 35, tyX8, rfl, by decide, (wW_at 785 (by rfl) (by rfl)), in_X8, tyX8_ok, nmX8⟩
set_option maxRecDepth 20000 in
theorem fl_X8_23 : qFL RX8 23 8 6 := ⟨RX8, TX8, 35, tyX8, rfl, by decide, (wW_at 786 (by rfl) (by rfl)), in_X8, tyX8_ok, nmX8⟩
set_option maxRecDepth 20000 in
theorem fl_X8_26 : qFL RX8 26 8 7 := ⟨RX8, TX8, 35, tyX8, rfl, by decide, (wW_at 787 (by rfl) (by rfl)), in_X8, tyX8_ok, nmX8⟩
set_option maxRecDepth 20000 in
theorem fl_X8_29 : qFL RX8 29 8 8 := ⟨RX8, TX8, 35, tyX8, rfl, by decide, (wW_at 788 (by rfl) (by rfl)), in_X8, tyX8_ok, nmX8⟩
set_option maxRecDepth 20000 in
theorem fl_X8_117 : qFL RX8 117 8 9 := ⟨RX8, TX8, 35, tyX8, rfl, by decide, (wW_at 789 (by rfl) (by rfl)), in_X8, tyX8_ok, nmX8⟩
set_option maxRecDepth 20000 in
theorem fl_X8_120 : qFL RX8 120 8 10 := ⟨RX8, TX8, 35, tyX8, rfl, by decide, (wW_at 790 (by rfl) (by rfl)), in_X8, tyX8_ok, nmX8⟩
set_option maxRecDepth 20000 in
theorem fl_X8_32 : qFL RX8 32 8 11 := ⟨RX8, TX8, 35, tyX8, rfl, by decide, (wW_at 791 (by rfl) (by rfl)), in_X8, tyX8_ok, nmX8⟩
set_option maxRecDepth 20000 in
theorem fl_X8_35 : qFL RX8 35 8 12 := ⟨RX8, TX8, 35, tyX8, rfl, by decide, (wW_at 792 (by rfl) (by rfl)), in_X8, tyX8_ok, nmX8⟩
set_option maxRecDepth 20000 in
theorem fl_X8_38 : qFL RX8 38 8 13 := ⟨RX8, TX8, 35, tyX8, rfl, by decide, (wW_at 793 (by rfl) (by rfl)), in_X8, tyX8_ok, nmX8⟩
set_option maxRecDepth 20000 in
theorem fl_X8_41 : qFL RX8 41 8 14 := ⟨RX8, TX8, 35, tyX8, rfl, by decide, (wW_at 794 (by rfl) (by rfl)), in_X8, tyX8_ok, nmX8⟩
set_option maxRecDepth 20000 in
theorem fl_X8_44 : qFL RX8 44 8 15 := ⟨RX8, TX8, 35, tyX8, rfl, by decide, (wW_at 795 (by rfl) (by rfl)), in_X8, tyX8_ok, nmX8⟩
set_option maxRecDepth 20000 in
theorem fl_X8_47 : qFL RX8 47 8 16 := ⟨RX8, TX8, 35, tyX8, rfl, by decide, (wW_at 796 (by rfl) (by rfl)), in_X8, tyX8_ok, nmX8⟩
set_option maxRecDepth 20000 in
theorem fl_X8_50 : qFL RX8 50 8 17 := ⟨RX8, TX8, 35, tyX8, rfl, by decide, (wW_at 797 (by rfl) (by rfl)), in_X8, tyX8_ok, nmX8⟩
set_option maxRecDepth 20000 in
theorem fl_X8_53 : qFL RX8 53 8 18 := ⟨RX8, TX8, 35, tyX8, rfl, by decide, (wW_at 798 (by rfl) (by rfl)), in_X8, tyX8_ok, nmX8⟩
set_option maxRecDepth 20000 in
theorem fl_X8_56 : qFL RX8 56 8 19 := ⟨RX8, TX8, 35, tyX8, rfl, by decide, (wW_at 799 (by rfl) (by rfl)), in_X8, tyX8_ok, nmX8⟩
set_option maxRecDepth 20000 in
theorem fl_X8_155 : qFL RX8 155 8 20 := ⟨RX8, TX8, 35, tyX8, rfl, by decide, (wW_at 800 (by rfl) (by rfl)), in_X8, tyX8_ok, nmX8⟩
set_option maxRecDepth 20000 in
theorem fl_X8_60 : qFL RX8 60 8 21 := ⟨RX8, TX8, 35, tyX8, rfl, by decide, (wW_at 801 (by rfl) (by rfl)), in_X8, tyX8_ok, nmX8⟩
set_option maxRecDepth 20000 in
theorem fl_X8_63 : qFL RX8 63 8 22 := ⟨RX8, TX8, 35, tyX8, rfl, by decide, (wW_at 802 (by rfl) (by rfl)), in_X8, tyX8_ok, nmX8⟩
set_option maxRecDepth 20000 in
theorem fl_X8_66 : qFL RX8 66 8 23 := ⟨RX8, TX8, 35, tyX8, rfl, by decide, (wW_at 803 (by rfl) (by rfl)), in_X8, tyX8_ok, nmX8⟩
set_option maxRecDepth 20000 in
theorem fl_X8_70 : qFL RX8 70 8 24 := ⟨RX8, TX8, 35, tyX8, rfl, by decide, (wW_at 804 (by rfl) (by rfl)), in_X8, tyX8_ok, nmX8⟩
set_option maxRecDepth 20000 in
theorem fl_X8_211 : qFL RX8 211 8 25 := ⟨RX8, TX8, 35, tyX8, rfl, by decide, (wW_at 805 (by rfl) (by rfl)), in_X8, tyX8_ok, nmX8⟩
set_option maxRecDepth 20000 in
theorem fl_X8_189 : qFL RX8 189 8 26 := ⟨RX8, TX8, 35, tyX8, rfl, by decide, (wW_at 806 (by rfl) (by rfl)), in_X8, tyX8_ok, nmX8⟩
set_option maxRecDepth 20000 in
theorem fl_X8_73 : qFL RX8 73 8 27 := ⟨RX8, TX8, 35, tyX8, rfl, by decide, (wW_at 807 (by rfl) (by rfl)), in_X8, tyX8_ok, nmX8⟩
set_option maxRecDepth 20000 in
theorem fl_X8_76 : qFL RX8 76 8 28 := ⟨RX8, TX8, 35, tyX8, rfl, by decide, (wW_at 808 (by rfl) (by rfl)), in_X8, tyX8_ok, nmX8⟩
set_option maxRecDepth 20000 in
theorem fl_X8_79 : qFL RX8 79 8 29 := ⟨RX8, TX8, 35, tyX8, rfl, by decide, (wW_at 809 (by rfl) (by rfl)), in_X8, tyX8_ok, nmX8⟩
set_option maxRecDepth 20000 in
theorem fl_X8_82 : qFL RX8 82 8 30 := ⟨RX8, TX8, 35, tyX8, rfl, by decide, (wW_at 810 (by rfl) (by rfl)), in_X8, tyX8_ok, nmX8⟩
set_option maxRecDepth 20000 in
theorem fl_X8_85 : qFL RX8 85 8 31 := ⟨RX8, TX8, 35, tyX8, rfl, by decide, (wW_at 811 (by rfl) (by rfl)), in_X8, tyX8_ok, nmX8⟩
set_option maxRecDepth 20000 in
theorem fl_X8_88 : qFL RX8 88 8 32 := ⟨RX8, TX8, 35, tyX8, rfl, by decide, (wW_at 812 (by rfl) (by rfl)), in_X8, tyX8_ok, nmX8⟩
set_option maxRecDepth 20000 in
theorem fl_X8_228 : qFL RX8 228 8 33 := ⟨RX8, TX8, 35, tyX8, rfl, by decide, (wW_at 813 (by rfl) (by rfl)), in_X8, tyX8_ok, nmX8⟩
set_option maxRecDepth 20000 in
theorem fl_X8_91 : qFL RX8 91 8 34 := ⟨RX8, TX8, 35, tyX8, rfl, by decide, (wW_at 814 (by rfl) (by rfl)), in_X8, tyX8_ok, nmX8⟩
/-! calls -/
set_option maxRecDepth 20000 in
theorem cl_L_9 : qCI RL 9 0 mX7_init := ⟨(wW_at 96 (by rfl) (by rfl)), (wW_at 79 (by rfl) (by rfl)), (wW_at 94 (by rfl) (by rfl)), (wW_at 95 (by rfl) (by rfl)), rfl, ⟨by decide, by decide, by decide +kernel⟩, rfl⟩
set_option maxRecDepth 20000 in
theorem cl_X7_3 : Cond.methodLink RX7 3 objectInit ∈ wW := (wW_at 97 (by rfl) (by rfl))
set_option maxRecDepth 20000 in
theorem cl_X7_17 : qCIN RX7 17 0 "TrainBook" mX3_init := ⟨(wW_at 106 (by rfl) (by rfl)), (wW_at 80 (by rfl) (by rfl)), List.mem_filter.mpr ⟨List.mem_of_getElem? (i := 104) (by rfl), by rfl⟩, (wW_at 105 (by rfl) (by rfl)), rfl, ⟨by decide, by decide, by decide +kernel⟩, rfl⟩
set_option maxRecDepth 20000 in
theorem cl_X3_3 : Cond.methodLink RX3 3 objectInit ∈ wW := (wW_at 107 (by rfl) (by rfl))
set_option maxRecDepth 20000 in
theorem cl_X7_24 : qCI RX7 24 0 mX4_init := ⟨(wW_at 117 (by rfl) (by rfl)), (wW_at 81 (by rfl) (by rfl)), (wW_at 115 (by rfl) (by rfl)), (wW_at 116 (by rfl) (by rfl)), rfl, ⟨by decide, by decide, by decide +kernel⟩, rfl⟩
set_option maxRecDepth 20000 in
theorem cl_X4_3 : Cond.methodLink RX4 3 objectInit ∈ wW := (wW_at 118 (by rfl) (by rfl))
set_option maxRecDepth 20000 in
theorem cl_X4_26 : qCIN RX4 26 0 "TrainBook" mX2_init := ⟨(wW_at 124 (by rfl) (by rfl)), (wW_at 82 (by rfl) (by rfl)), List.mem_filter.mpr ⟨List.mem_of_getElem? (i := 122) (by rfl), by rfl⟩, (wW_at 123 (by rfl) (by rfl)), rfl, ⟨by decide, by decide, by decide +kernel⟩, rfl⟩
set_option maxRecDepth 20000 in
theorem cl_X2_5 : Cond.methodLink RX2 5 objectInit ∈ wW := (wW_at 125 (by rfl) (by rfl))
set_option maxRecDepth 20000 in
theorem cl_X4_33 : qCIN RX4 33 0 "TrainBook" mX0_init := ⟨(wW_at 160 (by rfl) (by rfl)), (wW_at 83 (by rfl) (by rfl)), List.mem_filter.mpr ⟨List.mem_of_getElem? (i := 158) (by rfl), by rfl⟩, (wW_at 159 (by rfl) (by rfl)), rfl, ⟨by decide, by decide, by decide +kernel⟩, rfl⟩
set_option maxRecDepth 20000 in
theorem cl_X0_3 : Cond.methodLink RX0 3 objectInit ∈ wW := (wW_at 161 (by rfl) (by rfl))
set_option maxRecDepth 20000 in
theorem cl_X4_40 : qCIN RX4 40 0 "TrainBook" mX1_init := ⟨(wW_at 188 (by rfl) (by rfl)), (wW_at 84 (by rfl) (by rfl)), List.mem_filter.mpr ⟨List.mem_of_getElem? (i := 186) (by rfl), by rfl⟩, (wW_at 187 (by rfl) (by rfl)), rfl, ⟨by decide, by decide, by decide +kernel⟩, rfl⟩
set_option maxRecDepth 20000 in
theorem cl_X1_3 : Cond.methodLink RX1 3 objectInit ∈ wW := (wW_at 189 (by rfl) (by rfl))
set_option maxRecDepth 20000 in
theorem cl_X4_45 : qCI RX4 45 0 mX5_init := ⟨(wW_at 205 (by rfl) (by rfl)), (wW_at 85 (by rfl) (by rfl)), (wW_at 203 (by rfl) (by rfl)), (wW_at 204 (by rfl) (by rfl)), rfl, ⟨by decide, by decide, by decide +kernel⟩, rfl⟩
set_option maxRecDepth 20000 in
theorem cl_X5_3 : Cond.methodLink RX5 3 objectInit ∈ wW := (wW_at 206 (by rfl) (by rfl))
set_option maxRecDepth 20000 in
theorem cl_X5_24 : qCS RX5 24 2 mJ7_fill_53178 := ⟨(wW_at 209 (by rfl) (by rfl)), (wW_at 86 (by rfl) (by rfl)), (wW_at 207 (by rfl) (by rfl)), (wW_at 208 (by rfl) (by rfl)), ⟨by decide, by decide, by decide +kernel⟩⟩
set_option maxRecDepth 20000 in
theorem cl_X7_31 : qCIN RX7 31 0 "TrainBook" mX6_init := ⟨(wW_at 268 (by rfl) (by rfl)), (wW_at 87 (by rfl) (by rfl)), List.mem_filter.mpr ⟨List.mem_of_getElem? (i := 266) (by rfl), by rfl⟩, (wW_at 267 (by rfl) (by rfl)), rfl, ⟨by decide, by decide, by decide +kernel⟩, rfl⟩
set_option maxRecDepth 20000 in
theorem cl_X6_3 : Cond.methodLink RX6 3 objectInit ∈ wW := (wW_at 269 (by rfl) (by rfl))
set_option maxRecDepth 20000 in
theorem cl_X7_40 : qCI RX7 40 0 mX5_init := ⟨(wW_at 205 (by rfl) (by rfl)), (wW_at 85 (by rfl) (by rfl)), (wW_at 320 (by rfl) (by rfl)), (wW_at 204 (by rfl) (by rfl)), rfl, ⟨by decide, by decide, by decide +kernel⟩, rfl⟩
set_option maxRecDepth 20000 in
theorem cl_L_13 : qCV RL 13 1 7 mX7_train := ⟨(wW_at 343 (by rfl) (by rfl)), (wW_at 79 (by rfl) (by rfl)), (wW_at 340 (by rfl) (by rfl)), (wW_at 341 (by rfl) (by rfl)), (wW_at 342 (by rfl) (by rfl)), ⟨by decide, by decide, by decide +kernel⟩, by decide, TX7, 6, rfl⟩
set_option maxRecDepth 20000 in
theorem cl_X7_41 : qCS RX7 41 1 mX7_areDays := ⟨(wW_at 346 (by rfl) (by rfl)), (wW_at 79 (by rfl) (by rfl)), (wW_at 344 (by rfl) (by rfl)), (wW_at 345 (by rfl) (by rfl)), ⟨by decide, by decide, by decide +kernel⟩⟩
set_option maxRecDepth 20000 in
theorem cl_L_18 : qCV RL 18 4 7 mX7_stop := ⟨(wW_at 350 (by rfl) (by rfl)), (wW_at 79 (by rfl) (by rfl)), (wW_at 347 (by rfl) (by rfl)), (wW_at 348 (by rfl) (by rfl)), (wW_at 349 (by rfl) (by rfl)), ⟨by decide, by decide, by decide +kernel⟩, by decide, TX7, 6, rfl⟩
set_option maxRecDepth 20000 in
theorem cl_X7_51 : qCV RX7 51 1 7 mX7_trainOf := ⟨(wW_at 354 (by rfl) (by rfl)), (wW_at 79 (by rfl) (by rfl)), (wW_at 351 (by rfl) (by rfl)), (wW_at 353 (by rfl) (by rfl)), (wW_at 0 (by rfl) (by rfl)), ⟨by decide, by decide, by decide +kernel⟩, by decide, TX7, 6, rfl⟩
set_option maxRecDepth 20000 in
theorem cl_X7_55 : qCS RX7 55 1 mX7_isStation := ⟨(wW_at 357 (by rfl) (by rfl)), (wW_at 79 (by rfl) (by rfl)), (wW_at 355 (by rfl) (by rfl)), (wW_at 356 (by rfl) (by rfl)), ⟨by decide, by decide, by decide +kernel⟩⟩
set_option maxRecDepth 20000 in
theorem cl_X7_58 : qCV RX7 58 3 5 mX5_takes := ⟨(wW_at 361 (by rfl) (by rfl)), (wW_at 85 (by rfl) (by rfl)), (wW_at 358 (by rfl) (by rfl)), (wW_at 359 (by rfl) (by rfl)), (wW_at 360 (by rfl) (by rfl)), ⟨by decide, by decide, by decide +kernel⟩, by decide, TX5, 6, rfl⟩
set_option maxRecDepth 20000 in
theorem cl_X7_62 : qCV RX7 62 3 5 mX5_add := ⟨(wW_at 365 (by rfl) (by rfl)), (wW_at 85 (by rfl) (by rfl)), (wW_at 362 (by rfl) (by rfl)), (wW_at 363 (by rfl) (by rfl)), (wW_at 364 (by rfl) (by rfl)), ⟨by decide, by decide, by decide +kernel⟩, by decide, TX5, 6, rfl⟩
set_option maxRecDepth 20000 in
theorem cl_L_23 : qCV RL 23 2 7 mX7_days := ⟨(wW_at 369 (by rfl) (by rfl)), (wW_at 79 (by rfl) (by rfl)), (wW_at 366 (by rfl) (by rfl)), (wW_at 367 (by rfl) (by rfl)), (wW_at 368 (by rfl) (by rfl)), ⟨by decide, by decide, by decide +kernel⟩, by decide, TX7, 6, rfl⟩
set_option maxRecDepth 20000 in
theorem cl_L_28 : qCV RL 28 1 7 mX7_cut := ⟨(wW_at 373 (by rfl) (by rfl)), (wW_at 79 (by rfl) (by rfl)), (wW_at 370 (by rfl) (by rfl)), (wW_at 371 (by rfl) (by rfl)), (wW_at 372 (by rfl) (by rfl)), ⟨by decide, by decide, by decide +kernel⟩, by decide, TX7, 6, rfl⟩
set_option maxRecDepth 20000 in
theorem cl_X7_69 : qCV RX7 69 0 5 mX5_dropLast := ⟨(wW_at 377 (by rfl) (by rfl)), (wW_at 85 (by rfl) (by rfl)), (wW_at 374 (by rfl) (by rfl)), (wW_at 375 (by rfl) (by rfl)), (wW_at 376 (by rfl) (by rfl)), ⟨by decide, by decide, by decide +kernel⟩, by decide, TX5, 6, rfl⟩
set_option maxRecDepth 20000 in
theorem cl_L_33 : qCV RL 33 2 7 mX7_shift := ⟨(wW_at 381 (by rfl) (by rfl)), (wW_at 79 (by rfl) (by rfl)), (wW_at 378 (by rfl) (by rfl)), (wW_at 379 (by rfl) (by rfl)), (wW_at 380 (by rfl) (by rfl)), ⟨by decide, by decide, by decide +kernel⟩, by decide, TX7, 6, rfl⟩
set_option maxRecDepth 20000 in
theorem cl_X7_72 : qCV RX7 72 1 5 mX5_staysInDay := ⟨(wW_at 385 (by rfl) (by rfl)), (wW_at 85 (by rfl) (by rfl)), (wW_at 382 (by rfl) (by rfl)), (wW_at 383 (by rfl) (by rfl)), (wW_at 384 (by rfl) (by rfl)), ⟨by decide, by decide, by decide +kernel⟩, by decide, TX5, 6, rfl⟩
set_option maxRecDepth 20000 in
theorem cl_X7_75 : qCV RX7 75 1 5 mX5_move := ⟨(wW_at 390 (by rfl) (by rfl)), (wW_at 85 (by rfl) (by rfl)), (wW_at 387 (by rfl) (by rfl)), (wW_at 388 (by rfl) (by rfl)), (wW_at 389 (by rfl) (by rfl)), ⟨by decide, by decide, by decide +kernel⟩, by decide, TX5, 6, rfl⟩
set_option maxRecDepth 20000 in
theorem cl_L_37 : qCV RL 37 2 7 mX7_sign := ⟨(wW_at 394 (by rfl) (by rfl)), (wW_at 79 (by rfl) (by rfl)), (wW_at 391 (by rfl) (by rfl)), (wW_at 392 (by rfl) (by rfl)), (wW_at 393 (by rfl) (by rfl)), ⟨by decide, by decide, by decide +kernel⟩, by decide, TX7, 6, rfl⟩
set_option maxRecDepth 20000 in
theorem cl_X7_79 : qCV RX7 79 2 3 mX3_tell := ⟨(wW_at 398 (by rfl) (by rfl)), (wW_at 80 (by rfl) (by rfl)), (wW_at 395 (by rfl) (by rfl)), (wW_at 396 (by rfl) (by rfl)), (wW_at 397 (by rfl) (by rfl)), ⟨by decide, by decide, by decide +kernel⟩, by decide, TX3, 1, rfl⟩
set_option maxRecDepth 20000 in
theorem cl_L_41 : qCV RL 41 1 7 mX7_change := ⟨(wW_at 402 (by rfl) (by rfl)), (wW_at 79 (by rfl) (by rfl)), (wW_at 399 (by rfl) (by rfl)), (wW_at 400 (by rfl) (by rfl)), (wW_at 401 (by rfl) (by rfl)), ⟨by decide, by decide, by decide +kernel⟩, by decide, TX7, 6, rfl⟩
set_option maxRecDepth 20000 in
theorem cl_L_45 : qCV RL 45 1 7 mX7_about := ⟨(wW_at 406 (by rfl) (by rfl)), (wW_at 79 (by rfl) (by rfl)), (wW_at 403 (by rfl) (by rfl)), (wW_at 404 (by rfl) (by rfl)), (wW_at 405 (by rfl) (by rfl)), ⟨by decide, by decide, by decide +kernel⟩, by decide, TX7, 6, rfl⟩
set_option maxRecDepth 20000 in
theorem cl_X7_83 : qCV RX7 83 1 7 mX7_aboutBook := ⟨(wW_at 410 (by rfl) (by rfl)), (wW_at 79 (by rfl) (by rfl)), (wW_at 407 (by rfl) (by rfl)), (wW_at 409 (by rfl) (by rfl)), (wW_at 1 (by rfl) (by rfl)), ⟨by decide, by decide, by decide +kernel⟩, by decide, TX7, 6, rfl⟩
set_option maxRecDepth 20000 in
theorem cl_X7_105 : qCV RX7 105 0 4 mX4_rowCount := ⟨(wW_at 414 (by rfl) (by rfl)), (wW_at 81 (by rfl) (by rfl)), (wW_at 411 (by rfl) (by rfl)), (wW_at 412 (by rfl) (by rfl)), (wW_at 413 (by rfl) (by rfl)), ⟨by decide, by decide, by decide +kernel⟩, by decide, TX4, 7, rfl⟩
set_option maxRecDepth 20000 in
theorem cl_X7_161 : qCV RX7 161 0 4 mX4_columnCount := ⟨(wW_at 418 (by rfl) (by rfl)), (wW_at 81 (by rfl) (by rfl)), (wW_at 415 (by rfl) (by rfl)), (wW_at 416 (by rfl) (by rfl)), (wW_at 417 (by rfl) (by rfl)), ⟨by decide, by decide, by decide +kernel⟩, by decide, TX4, 7, rfl⟩
set_option maxRecDepth 20000 in
theorem cl_X7_87 : qCV RX7 87 1 5 mX5_read := ⟨(wW_at 422 (by rfl) (by rfl)), (wW_at 85 (by rfl) (by rfl)), (wW_at 419 (by rfl) (by rfl)), (wW_at 420 (by rfl) (by rfl)), (wW_at 421 (by rfl) (by rfl)), ⟨by decide, by decide, by decide +kernel⟩, by decide, TX5, 6, rfl⟩
set_option maxRecDepth 20000 in
theorem cl_L_49 : qCV RL 49 2 7 mX7_signs := ⟨(wW_at 426 (by rfl) (by rfl)), (wW_at 79 (by rfl) (by rfl)), (wW_at 423 (by rfl) (by rfl)), (wW_at 424 (by rfl) (by rfl)), (wW_at 425 (by rfl) (by rfl)), ⟨by decide, by decide, by decide +kernel⟩, by decide, TX7, 6, rfl⟩
set_option maxRecDepth 20000 in
theorem cl_X7_90 : qCV RX7 90 1 3 mX3_fewestFor := ⟨(wW_at 430 (by rfl) (by rfl)), (wW_at 80 (by rfl) (by rfl)), (wW_at 427 (by rfl) (by rfl)), (wW_at 428 (by rfl) (by rfl)), (wW_at 429 (by rfl) (by rfl)), ⟨by decide, by decide, by decide +kernel⟩, by decide, TX3, 1, rfl⟩
set_option maxRecDepth 20000 in
theorem cl_X3_15 : qCV RX3 15 1 3 mX3_unionOf := ⟨(wW_at 434 (by rfl) (by rfl)), (wW_at 80 (by rfl) (by rfl)), (wW_at 431 (by rfl) (by rfl)), (wW_at 433 (by rfl) (by rfl)), (wW_at 2 (by rfl) (by rfl)), ⟨by decide, by decide, by decide +kernel⟩, by decide, TX3, 1, rfl⟩
set_option maxRecDepth 20000 in
theorem cl_X3_19 : qCS RX3 19 2 mX3_lesser := ⟨(wW_at 437 (by rfl) (by rfl)), (wW_at 80 (by rfl) (by rfl)), (wW_at 435 (by rfl) (by rfl)), (wW_at 436 (by rfl) (by rfl)), ⟨by decide, by decide, by decide +kernel⟩⟩
set_option maxRecDepth 20000 in
theorem cl_X3_23 : qCS RX3 23 1 mJ6_bitCount_0f7a4 := ⟨(wW_at 440 (by rfl) (by rfl)), (wW_at 89 (by rfl) (by rfl)), (wW_at 438 (by rfl) (by rfl)), (wW_at 439 (by rfl) (by rfl)), ⟨by decide, by decide, by decide +kernel⟩⟩
set_option maxRecDepth 20000 in
theorem cl_X3_28 : Cond.methodLink RX3 28 Lib.Math.min.name ∈ wW := (wW_at 444 (by rfl) (by rfl))
set_option maxRecDepth 20000 in
theorem cl_X7_93 : qCS RX7 93 1 mJ6_bitCount_0f7a4 := ⟨(wW_at 440 (by rfl) (by rfl)), (wW_at 89 (by rfl) (by rfl)), (wW_at 447 (by rfl) (by rfl)), (wW_at 439 (by rfl) (by rfl)), ⟨by decide, by decide, by decide +kernel⟩⟩
set_option maxRecDepth 20000 in
theorem cl_L_54 : qCV RL 54 1 7 mX7_table := ⟨(wW_at 451 (by rfl) (by rfl)), (wW_at 79 (by rfl) (by rfl)), (wW_at 448 (by rfl) (by rfl)), (wW_at 449 (by rfl) (by rfl)), (wW_at 450 (by rfl) (by rfl)), ⟨by decide, by decide, by decide +kernel⟩, by decide, TX7, 6, rfl⟩
set_option maxRecDepth 20000 in
theorem cl_X7_98 : qCV RX7 98 1 7 mX7_canBeTable := ⟨(wW_at 455 (by rfl) (by rfl)), (wW_at 79 (by rfl) (by rfl)), (wW_at 452 (by rfl) (by rfl)), (wW_at 454 (by rfl) (by rfl)), (wW_at 3 (by rfl) (by rfl)), ⟨by decide, by decide, by decide +kernel⟩, by decide, TX7, 6, rfl⟩
set_option maxRecDepth 20000 in
theorem cl_X7_101 : qCV RX7 101 2 4 mX4_make := ⟨(wW_at 459 (by rfl) (by rfl)), (wW_at 81 (by rfl) (by rfl)), (wW_at 456 (by rfl) (by rfl)), (wW_at 457 (by rfl) (by rfl)), (wW_at 458 (by rfl) (by rfl)), ⟨by decide, by decide, by decide +kernel⟩, by decide, TX4, 7, rfl⟩
set_option maxRecDepth 20000 in
theorem cl_X4_46 : qCV RX4 46 2 4 mX4_takeMembers := ⟨(wW_at 463 (by rfl) (by rfl)), (wW_at 81 (by rfl) (by rfl)), (wW_at 460 (by rfl) (by rfl)), (wW_at 462 (by rfl) (by rfl)), (wW_at 4 (by rfl) (by rfl)), ⟨by decide, by decide, by decide +kernel⟩, by decide, TX4, 7, rfl⟩
set_option maxRecDepth 20000 in
theorem cl_X4_108 : qCV RX4 108 1 5 mX5_copy := ⟨(wW_at 467 (by rfl) (by rfl)), (wW_at 85 (by rfl) (by rfl)), (wW_at 464 (by rfl) (by rfl)), (wW_at 465 (by rfl) (by rfl)), (wW_at 466 (by rfl) (by rfl)), ⟨by decide, by decide, by decide +kernel⟩, by decide, TX5, 6, rfl⟩
set_option maxRecDepth 20000 in
theorem cl_X5_43 : Cond.methodLink RX5 43 arraycopyName ∈ wW := (wW_at 468 (by rfl) (by rfl))
set_option maxRecDepth 20000 in
theorem cl_X4_54 : qCV RX4 54 2 2 mX2_search := ⟨(wW_at 474 (by rfl) (by rfl)), (wW_at 82 (by rfl) (by rfl)), (wW_at 471 (by rfl) (by rfl)), (wW_at 472 (by rfl) (by rfl)), (wW_at 473 (by rfl) (by rfl)), ⟨by decide, by decide, by decide +kernel⟩, by decide, TX2, 9, rfl⟩
set_option maxRecDepth 20000 in
theorem cl_X2_27 : qCV RX2 27 2 2 mX2_prepare := ⟨(wW_at 478 (by rfl) (by rfl)), (wW_at 82 (by rfl) (by rfl)), (wW_at 475 (by rfl) (by rfl)), (wW_at 477 (by rfl) (by rfl)), (wW_at 5 (by rfl) (by rfl)), ⟨by decide, by decide, by decide +kernel⟩, by decide, TX2, 9, rfl⟩
set_option maxRecDepth 20000 in
theorem cl_X2_65 : qCV RX2 65 2 2 mX2_readStops := ⟨(wW_at 482 (by rfl) (by rfl)), (wW_at 82 (by rfl) (by rfl)), (wW_at 479 (by rfl) (by rfl)), (wW_at 481 (by rfl) (by rfl)), (wW_at 6 (by rfl) (by rfl)), ⟨by decide, by decide, by decide +kernel⟩, by decide, TX2, 9, rfl⟩
set_option maxRecDepth 20000 in
theorem cl_X2_69 : qCV RX2 69 3 2 mX2_fillPair := ⟨(wW_at 486 (by rfl) (by rfl)), (wW_at 82 (by rfl) (by rfl)), (wW_at 483 (by rfl) (by rfl)), (wW_at 485 (by rfl) (by rfl)), (wW_at 7 (by rfl) (by rfl)), ⟨by decide, by decide, by decide +kernel⟩, by decide, TX2, 9, rfl⟩
set_option maxRecDepth 20000 in
theorem cl_X2_80 : Cond.methodLink RX2 80 Lib.Math.min.name ∈ wW := (wW_at 487 (by rfl) (by rfl))
set_option maxRecDepth 20000 in
theorem cl_X2_73 : qCV RX2 73 1 2 mX2_openKnown := ⟨(wW_at 491 (by rfl) (by rfl)), (wW_at 82 (by rfl) (by rfl)), (wW_at 488 (by rfl) (by rfl)), (wW_at 490 (by rfl) (by rfl)), (wW_at 8 (by rfl) (by rfl)), ⟨by decide, by decide, by decide +kernel⟩, by decide, TX2, 9, rfl⟩
set_option maxRecDepth 20000 in
theorem cl_X2_89 : qCS RX2 89 2 mJ7_fill_53178 := ⟨(wW_at 209 (by rfl) (by rfl)), (wW_at 86 (by rfl) (by rfl)), (wW_at 493 (by rfl) (by rfl)), (wW_at 208 (by rfl) (by rfl)), ⟨by decide, by decide, by decide +kernel⟩⟩
set_option maxRecDepth 20000 in
theorem cl_X2_37 : qCV RX2 37 1 2 mX2_needOf := ⟨(wW_at 497 (by rfl) (by rfl)), (wW_at 82 (by rfl) (by rfl)), (wW_at 494 (by rfl) (by rfl)), (wW_at 496 (by rfl) (by rfl)), (wW_at 9 (by rfl) (by rfl)), ⟨by decide, by decide, by decide +kernel⟩, by decide, TX2, 9, rfl⟩
set_option maxRecDepth 20000 in
theorem cl_X2_95 : qCV RX2 95 1 2 mX2_leastNeed := ⟨(wW_at 501 (by rfl) (by rfl)), (wW_at 82 (by rfl) (by rfl)), (wW_at 498 (by rfl) (by rfl)), (wW_at 500 (by rfl) (by rfl)), (wW_at 10 (by rfl) (by rfl)), ⟨by decide, by decide, by decide +kernel⟩, by decide, TX2, 9, rfl⟩
set_option maxRecDepth 20000 in
theorem cl_X2_98 : qCV RX2 98 2 2 mX2_placeOf := ⟨(wW_at 505 (by rfl) (by rfl)), (wW_at 82 (by rfl) (by rfl)), (wW_at 502 (by rfl) (by rfl)), (wW_at 504 (by rfl) (by rfl)), (wW_at 11 (by rfl) (by rfl)), ⟨by decide, by decide, by decide +kernel⟩, by decide, TX2, 9, rfl⟩
set_option maxRecDepth 20000 in
theorem cl_X2_101 : qCS RX2 101 1 mJ6_bitCount_0f7a4 := ⟨(wW_at 440 (by rfl) (by rfl)), (wW_at 89 (by rfl) (by rfl)), (wW_at 506 (by rfl) (by rfl)), (wW_at 439 (by rfl) (by rfl)), ⟨by decide, by decide, by decide +kernel⟩⟩
set_option maxRecDepth 20000 in
theorem cl_X2_106 : qCV RX2 106 3 2 mX2_pairNeedAt := ⟨(wW_at 510 (by rfl) (by rfl)), (wW_at 82 (by rfl) (by rfl)), (wW_at 507 (by rfl) (by rfl)), (wW_at 509 (by rfl) (by rfl)), (wW_at 12 (by rfl) (by rfl)), ⟨by decide, by decide, by decide +kernel⟩, by decide, TX2, 9, rfl⟩
set_option maxRecDepth 20000 in
theorem cl_X2_110 : Cond.methodLink RX2 110 Lib.Math.max.name ∈ wW := (wW_at 511 (by rfl) (by rfl))
set_option maxRecDepth 20000 in
theorem cl_X2_58 : qCV RX2 58 2 2 mX2_keep := ⟨(wW_at 517 (by rfl) (by rfl)), (wW_at 82 (by rfl) (by rfl)), (wW_at 514 (by rfl) (by rfl)), (wW_at 516 (by rfl) (by rfl)), (wW_at 13 (by rfl) (by rfl)), ⟨by decide, by decide, by decide +kernel⟩, by decide, TX2, 9, rfl⟩
set_option maxRecDepth 20000 in
theorem cl_X2_44 : qCS RX2 44 3 mX2_reach := ⟨(wW_at 520 (by rfl) (by rfl)), (wW_at 82 (by rfl) (by rfl)), (wW_at 518 (by rfl) (by rfl)), (wW_at 519 (by rfl) (by rfl)), ⟨by decide, by decide, by decide +kernel⟩⟩
set_option maxRecDepth 20000 in
theorem cl_X2_51 : qCV RX2 51 1 2 mX2_nextStations := ⟨(wW_at 524 (by rfl) (by rfl)), (wW_at 82 (by rfl) (by rfl)), (wW_at 521 (by rfl) (by rfl)), (wW_at 523 (by rfl) (by rfl)), (wW_at 14 (by rfl) (by rfl)), ⟨by decide, by decide, by decide +kernel⟩, by decide, TX2, 9, rfl⟩
set_option maxRecDepth 20000 in
theorem cl_X2_54 : qCV RX2 54 2 2 mX2_passed := ⟨(wW_at 528 (by rfl) (by rfl)), (wW_at 82 (by rfl) (by rfl)), (wW_at 525 (by rfl) (by rfl)), (wW_at 527 (by rfl) (by rfl)), (wW_at 15 (by rfl) (by rfl)), ⟨by decide, by decide, by decide +kernel⟩, by decide, TX2, 9, rfl⟩
set_option maxRecDepth 20000 in
theorem cl_X4_57 : qCV RX4 57 1 4 mX4_placeStops := ⟨(wW_at 532 (by rfl) (by rfl)), (wW_at 81 (by rfl) (by rfl)), (wW_at 529 (by rfl) (by rfl)), (wW_at 531 (by rfl) (by rfl)), (wW_at 16 (by rfl) (by rfl)), ⟨by decide, by decide, by decide +kernel⟩, by decide, TX4, 7, rfl⟩
set_option maxRecDepth 20000 in
theorem cl_X4_61 : qCV RX4 61 2 0 mX0_arrange := ⟨(wW_at 536 (by rfl) (by rfl)), (wW_at 83 (by rfl) (by rfl)), (wW_at 533 (by rfl) (by rfl)), (wW_at 534 (by rfl) (by rfl)), (wW_at 535 (by rfl) (by rfl)), ⟨by decide, by decide, by decide +kernel⟩, by decide, TX0, 6, rfl⟩
set_option maxRecDepth 20000 in
theorem cl_X0_28 : qCV RX0 28 2 0 mX0_breachedBy := ⟨(wW_at 540 (by rfl) (by rfl)), (wW_at 83 (by rfl) (by rfl)), (wW_at 537 (by rfl) (by rfl)), (wW_at 539 (by rfl) (by rfl)), (wW_at 17 (by rfl) (by rfl)), ⟨by decide, by decide, by decide +kernel⟩, by decide, TX0, 6, rfl⟩
set_option maxRecDepth 20000 in
theorem cl_X0_45 : qCV RX0 45 1 5 mX5_isAheadSomewhere := ⟨(wW_at 544 (by rfl) (by rfl)), (wW_at 85 (by rfl) (by rfl)), (wW_at 541 (by rfl) (by rfl)), (wW_at 542 (by rfl) (by rfl)), (wW_at 543 (by rfl) (by rfl)), ⟨by decide, by decide, by decide +kernel⟩, by decide, TX5, 6, rfl⟩
set_option maxRecDepth 20000 in
theorem cl_X5_39 : qCV RX5 39 1 5 mX5_leaves := ⟨(wW_at 548 (by rfl) (by rfl)), (wW_at 85 (by rfl) (by rfl)), (wW_at 545 (by rfl) (by rfl)), (wW_at 547 (by rfl) (by rfl)), (wW_at 18 (by rfl) (by rfl)), ⟨by decide, by decide, by decide +kernel⟩, by decide, TX5, 6, rfl⟩
set_option maxRecDepth 20000 in
theorem cl_X0_32 : qCV RX0 32 2 0 mX0_wouldBreach := ⟨(wW_at 552 (by rfl) (by rfl)), (wW_at 83 (by rfl) (by rfl)), (wW_at 549 (by rfl) (by rfl)), (wW_at 550 (by rfl) (by rfl)), (wW_at 551 (by rfl) (by rfl)), ⟨by decide, by decide, by decide +kernel⟩, by decide, TX0, 6, rfl⟩
set_option maxRecDepth 20000 in
theorem cl_X0_36 : qCV RX0 36 0 0 mX0_fillFewest := ⟨(wW_at 556 (by rfl) (by rfl)), (wW_at 83 (by rfl) (by rfl)), (wW_at 553 (by rfl) (by rfl)), (wW_at 555 (by rfl) (by rfl)), (wW_at 19 (by rfl) (by rfl)), ⟨by decide, by decide, by decide +kernel⟩, by decide, TX0, 6, rfl⟩
set_option maxRecDepth 20000 in
theorem cl_X0_51 : qCV RX0 51 2 0 mX0_fewestWith := ⟨(wW_at 560 (by rfl) (by rfl)), (wW_at 83 (by rfl) (by rfl)), (wW_at 557 (by rfl) (by rfl)), (wW_at 559 (by rfl) (by rfl)), (wW_at 20 (by rfl) (by rfl)), ⟨by decide, by decide, by decide +kernel⟩, by decide, TX0, 6, rfl⟩
set_option maxRecDepth 20000 in
theorem cl_X0_60 : qCS RX0 60 1 mJ6_bitCount_0f7a4 := ⟨(wW_at 440 (by rfl) (by rfl)), (wW_at 89 (by rfl) (by rfl)), (wW_at 561 (by rfl) (by rfl)), (wW_at 439 (by rfl) (by rfl)), ⟨by decide, by decide, by decide +kernel⟩⟩
set_option maxRecDepth 20000 in
theorem cl_X0_55 : Cond.methodLink RX0 55 Lib.Math.min.name ∈ wW := (wW_at 562 (by rfl) (by rfl))
set_option maxRecDepth 20000 in
theorem cl_X0_42 : qCV RX0 42 0 0 mX0_setOrder := ⟨(wW_at 566 (by rfl) (by rfl)), (wW_at 83 (by rfl) (by rfl)), (wW_at 563 (by rfl) (by rfl)), (wW_at 565 (by rfl) (by rfl)), (wW_at 21 (by rfl) (by rfl)), ⟨by decide, by decide, by decide +kernel⟩, by decide, TX0, 6, rfl⟩
set_option maxRecDepth 20000 in
theorem cl_X0_66 : qCV RX0 66 1 0 mX0_firstBehind := ⟨(wW_at 570 (by rfl) (by rfl)), (wW_at 83 (by rfl) (by rfl)), (wW_at 567 (by rfl) (by rfl)), (wW_at 569 (by rfl) (by rfl)), (wW_at 22 (by rfl) (by rfl)), ⟨by decide, by decide, by decide +kernel⟩, by decide, TX0, 6, rfl⟩
set_option maxRecDepth 20000 in
theorem cl_X4_64 : qCV RX4 64 0 4 mX4_planLanes := ⟨(wW_at 574 (by rfl) (by rfl)), (wW_at 81 (by rfl) (by rfl)), (wW_at 571 (by rfl) (by rfl)), (wW_at 573 (by rfl) (by rfl)), (wW_at 23 (by rfl) (by rfl)), ⟨by decide, by decide, by decide +kernel⟩, by decide, TX4, 7, rfl⟩
set_option maxRecDepth 20000 in
theorem cl_X4_115 : qCV RX4 115 0 1 mX1_clear := ⟨(wW_at 578 (by rfl) (by rfl)), (wW_at 84 (by rfl) (by rfl)), (wW_at 575 (by rfl) (by rfl)), (wW_at 576 (by rfl) (by rfl)), (wW_at 577 (by rfl) (by rfl)), ⟨by decide, by decide, by decide +kernel⟩, by decide, TX1, 3, rfl⟩
set_option maxRecDepth 20000 in
theorem cl_X1_22 : qCS RX1 22 2 mJ7_fill_53178 := ⟨(wW_at 209 (by rfl) (by rfl)), (wW_at 86 (by rfl) (by rfl)), (wW_at 579 (by rfl) (by rfl)), (wW_at 208 (by rfl) (by rfl)), ⟨by decide, by decide, by decide +kernel⟩⟩
set_option maxRecDepth 20000 in
theorem cl_X4_76 : qCV RX4 76 1 4 mX4_firstRow := ⟨(wW_at 583 (by rfl) (by rfl)), (wW_at 81 (by rfl) (by rfl)), (wW_at 580 (by rfl) (by rfl)), (wW_at 582 (by rfl) (by rfl)), (wW_at 24 (by rfl) (by rfl)), ⟨by decide, by decide, by decide +kernel⟩, by decide, TX4, 7, rfl⟩
set_option maxRecDepth 20000 in
theorem cl_X4_80 : qCV RX4 80 1 4 mX4_lastRow := ⟨(wW_at 587 (by rfl) (by rfl)), (wW_at 81 (by rfl) (by rfl)), (wW_at 584 (by rfl) (by rfl)), (wW_at 586 (by rfl) (by rfl)), (wW_at 25 (by rfl) (by rfl)), ⟨by decide, by decide, by decide +kernel⟩, by decide, TX4, 7, rfl⟩
set_option maxRecDepth 20000 in
theorem cl_X4_118 : qCV RX4 118 3 1 mX1_give := ⟨(wW_at 591 (by rfl) (by rfl)), (wW_at 84 (by rfl) (by rfl)), (wW_at 588 (by rfl) (by rfl)), (wW_at 589 (by rfl) (by rfl)), (wW_at 590 (by rfl) (by rfl)), ⟨by decide, by decide, by decide +kernel⟩, by decide, TX1, 3, rfl⟩
set_option maxRecDepth 20000 in
theorem cl_X1_28 : Cond.methodLink RX1 28 Lib.Math.max.name ∈ wW := (wW_at 592 (by rfl) (by rfl))
set_option maxRecDepth 20000 in
theorem cl_L_58 : qCV RL 58 1 7 mX7_row := ⟨(wW_at 596 (by rfl) (by rfl)), (wW_at 79 (by rfl) (by rfl)), (wW_at 593 (by rfl) (by rfl)), (wW_at 594 (by rfl) (by rfl)), (wW_at 595 (by rfl) (by rfl)), ⟨by decide, by decide, by decide +kernel⟩, by decide, TX7, 6, rfl⟩
set_option maxRecDepth 20000 in
theorem cl_X7_109 : qCV RX7 109 1 4 mX4_hasRow := ⟨(wW_at 600 (by rfl) (by rfl)), (wW_at 81 (by rfl) (by rfl)), (wW_at 597 (by rfl) (by rfl)), (wW_at 598 (by rfl) (by rfl)), (wW_at 599 (by rfl) (by rfl)), ⟨by decide, by decide, by decide +kernel⟩, by decide, TX4, 7, rfl⟩
set_option maxRecDepth 20000 in
theorem cl_X7_112 : qCV RX7 112 1 4 mX4_stationOf := ⟨(wW_at 604 (by rfl) (by rfl)), (wW_at 81 (by rfl) (by rfl)), (wW_at 601 (by rfl) (by rfl)), (wW_at 602 (by rfl) (by rfl)), (wW_at 603 (by rfl) (by rfl)), ⟨by decide, by decide, by decide +kernel⟩, by decide, TX4, 7, rfl⟩
set_option maxRecDepth 20000 in
theorem cl_L_62 : qCV RL 62 1 7 mX7_column := ⟨(wW_at 608 (by rfl) (by rfl)), (wW_at 79 (by rfl) (by rfl)), (wW_at 605 (by rfl) (by rfl)), (wW_at 606 (by rfl) (by rfl)), (wW_at 607 (by rfl) (by rfl)), ⟨by decide, by decide, by decide +kernel⟩, by decide, TX7, 6, rfl⟩
set_option maxRecDepth 20000 in
theorem cl_X7_115 : qCV RX7 115 1 4 mX4_hasColumn := ⟨(wW_at 612 (by rfl) (by rfl)), (wW_at 81 (by rfl) (by rfl)), (wW_at 609 (by rfl) (by rfl)), (wW_at 610 (by rfl) (by rfl)), (wW_at 611 (by rfl) (by rfl)), ⟨by decide, by decide, by decide +kernel⟩, by decide, TX4, 7, rfl⟩
set_option maxRecDepth 20000 in
theorem cl_X7_118 : qCV RX7 118 1 4 mX4_trainOf := ⟨(wW_at 616 (by rfl) (by rfl)), (wW_at 81 (by rfl) (by rfl)), (wW_at 613 (by rfl) (by rfl)), (wW_at 614 (by rfl) (by rfl)), (wW_at 615 (by rfl) (by rfl)), ⟨by decide, by decide, by decide +kernel⟩, by decide, TX4, 7, rfl⟩
set_option maxRecDepth 20000 in
theorem cl_L_66 : qCV RL 66 3 7 mX7_cell := ⟨(wW_at 620 (by rfl) (by rfl)), (wW_at 79 (by rfl) (by rfl)), (wW_at 617 (by rfl) (by rfl)), (wW_at 618 (by rfl) (by rfl)), (wW_at 619 (by rfl) (by rfl)), ⟨by decide, by decide, by decide +kernel⟩, by decide, TX7, 6, rfl⟩
set_option maxRecDepth 20000 in
theorem cl_X7_120 : qCV RX7 120 3 4 mX4_read := ⟨(wW_at 624 (by rfl) (by rfl)), (wW_at 81 (by rfl) (by rfl)), (wW_at 621 (by rfl) (by rfl)), (wW_at 622 (by rfl) (by rfl)), (wW_at 623 (by rfl) (by rfl)), ⟨by decide, by decide, by decide +kernel⟩, by decide, TX4, 7, rfl⟩
set_option maxRecDepth 20000 in
theorem cl_L_71 : qCV RL 71 1 7 mX7_breaches := ⟨(wW_at 628 (by rfl) (by rfl)), (wW_at 79 (by rfl) (by rfl)), (wW_at 625 (by rfl) (by rfl)), (wW_at 626 (by rfl) (by rfl)), (wW_at 627 (by rfl) (by rfl)), ⟨by decide, by decide, by decide +kernel⟩, by decide, TX7, 6, rfl⟩
set_option maxRecDepth 20000 in
theorem cl_X7_123 : qCV RX7 123 0 4 mX4_isMade := ⟨(wW_at 632 (by rfl) (by rfl)), (wW_at 81 (by rfl) (by rfl)), (wW_at 629 (by rfl) (by rfl)), (wW_at 630 (by rfl) (by rfl)), (wW_at 631 (by rfl) (by rfl)), ⟨by decide, by decide, by decide +kernel⟩, by decide, TX4, 7, rfl⟩
set_option maxRecDepth 20000 in
theorem cl_X7_127 : qCV RX7 127 0 4 mX4_countBreaches := ⟨(wW_at 636 (by rfl) (by rfl)), (wW_at 81 (by rfl) (by rfl)), (wW_at 633 (by rfl) (by rfl)), (wW_at 634 (by rfl) (by rfl)), (wW_at 635 (by rfl) (by rfl)), ⟨by decide, by decide, by decide +kernel⟩, by decide, TX4, 7, rfl⟩
set_option maxRecDepth 20000 in
theorem cl_X7_130 : qCV RX7 130 0 4 mX4_countKnots := ⟨(wW_at 640 (by rfl) (by rfl)), (wW_at 81 (by rfl) (by rfl)), (wW_at 637 (by rfl) (by rfl)), (wW_at 638 (by rfl) (by rfl)), (wW_at 639 (by rfl) (by rfl)), ⟨by decide, by decide, by decide +kernel⟩, by decide, TX4, 7, rfl⟩
set_option maxRecDepth 20000 in
theorem cl_L_75 : qCV RL 75 2 7 mX7_breach := ⟨(wW_at 644 (by rfl) (by rfl)), (wW_at 79 (by rfl) (by rfl)), (wW_at 641 (by rfl) (by rfl)), (wW_at 642 (by rfl) (by rfl)), (wW_at 643 (by rfl) (by rfl)), ⟨by decide, by decide, by decide +kernel⟩, by decide, TX7, 6, rfl⟩
set_option maxRecDepth 20000 in
theorem cl_X7_133 : qCV RX7 133 2 4 mX4_isBreach := ⟨(wW_at 648 (by rfl) (by rfl)), (wW_at 81 (by rfl) (by rfl)), (wW_at 645 (by rfl) (by rfl)), (wW_at 646 (by rfl) (by rfl)), (wW_at 647 (by rfl) (by rfl)), ⟨by decide, by decide, by decide +kernel⟩, by decide, TX4, 7, rfl⟩
set_option maxRecDepth 20000 in
theorem cl_X4_98 : qCV RX4 98 2 0 mX0_wouldBreach := ⟨(wW_at 552 (by rfl) (by rfl)), (wW_at 83 (by rfl) (by rfl)), (wW_at 649 (by rfl) (by rfl)), (wW_at 550 (by rfl) (by rfl)), (wW_at 551 (by rfl) (by rfl)), ⟨by decide, by decide, by decide +kernel⟩, by decide, TX0, 6, rfl⟩
set_option maxRecDepth 20000 in
theorem cl_L_79 : qCV RL 79 0 7 mX7_lanes := ⟨(wW_at 653 (by rfl) (by rfl)), (wW_at 79 (by rfl) (by rfl)), (wW_at 650 (by rfl) (by rfl)), (wW_at 651 (by rfl) (by rfl)), (wW_at 652 (by rfl) (by rfl)), ⟨by decide, by decide, by decide +kernel⟩, by decide, TX7, 6, rfl⟩
set_option maxRecDepth 20000 in
theorem cl_X7_137 : qCV RX7 137 0 4 mX4_laneCount := ⟨(wW_at 657 (by rfl) (by rfl)), (wW_at 81 (by rfl) (by rfl)), (wW_at 654 (by rfl) (by rfl)), (wW_at 655 (by rfl) (by rfl)), (wW_at 656 (by rfl) (by rfl)), ⟨by decide, by decide, by decide +kernel⟩, by decide, TX4, 7, rfl⟩
set_option maxRecDepth 20000 in
theorem cl_L_84 : qCV RL 84 1 7 mX7_lane := ⟨(wW_at 661 (by rfl) (by rfl)), (wW_at 79 (by rfl) (by rfl)), (wW_at 658 (by rfl) (by rfl)), (wW_at 659 (by rfl) (by rfl)), (wW_at 660 (by rfl) (by rfl)), ⟨by decide, by decide, by decide +kernel⟩, by decide, TX7, 6, rfl⟩
set_option maxRecDepth 20000 in
theorem cl_X7_140 : qCV RX7 140 1 4 mX4_laneOf := ⟨(wW_at 665 (by rfl) (by rfl)), (wW_at 81 (by rfl) (by rfl)), (wW_at 662 (by rfl) (by rfl)), (wW_at 663 (by rfl) (by rfl)), (wW_at 664 (by rfl) (by rfl)), ⟨by decide, by decide, by decide +kernel⟩, by decide, TX4, 7, rfl⟩
set_option maxRecDepth 20000 in
theorem cl_L_88 : qCV RL 88 5 7 mX7_way := ⟨(wW_at 669 (by rfl) (by rfl)), (wW_at 79 (by rfl) (by rfl)), (wW_at 666 (by rfl) (by rfl)), (wW_at 667 (by rfl) (by rfl)), (wW_at 668 (by rfl) (by rfl)), ⟨by decide, by decide, by decide +kernel⟩, by decide, TX7, 6, rfl⟩
set_option maxRecDepth 20000 in
theorem cl_X7_143 : qCS RX7 143 3 mX7_canTravel := ⟨(wW_at 672 (by rfl) (by rfl)), (wW_at 79 (by rfl) (by rfl)), (wW_at 670 (by rfl) (by rfl)), (wW_at 671 (by rfl) (by rfl)), ⟨by decide, by decide, by decide +kernel⟩⟩
set_option maxRecDepth 20000 in
theorem cl_X7_146 : qCV RX7 146 4 6 mX6_setOut := ⟨(wW_at 676 (by rfl) (by rfl)), (wW_at 87 (by rfl) (by rfl)), (wW_at 673 (by rfl) (by rfl)), (wW_at 674 (by rfl) (by rfl)), (wW_at 675 (by rfl) (by rfl)), ⟨by decide, by decide, by decide +kernel⟩, by decide, TX6, 16, rfl⟩
set_option maxRecDepth 20000 in
theorem cl_X7_150 : qCV RX7 150 3 6 mX6_findBest := ⟨(wW_at 680 (by rfl) (by rfl)), (wW_at 87 (by rfl) (by rfl)), (wW_at 677 (by rfl) (by rfl)), (wW_at 678 (by rfl) (by rfl)), (wW_at 679 (by rfl) (by rfl)), ⟨by decide, by decide, by decide +kernel⟩, by decide, TX6, 16, rfl⟩
set_option maxRecDepth 20000 in
theorem cl_X6_52 : qCV RX6 52 3 6 mX6_soonestAt := ⟨(wW_at 684 (by rfl) (by rfl)), (wW_at 87 (by rfl) (by rfl)), (wW_at 681 (by rfl) (by rfl)), (wW_at 683 (by rfl) (by rfl)), (wW_at 26 (by rfl) (by rfl)), ⟨by decide, by decide, by decide +kernel⟩, by decide, TX6, 16, rfl⟩
set_option maxRecDepth 20000 in
theorem cl_X6_97 : qCS RX6 97 2 mJ7_fill_53178 := ⟨(wW_at 209 (by rfl) (by rfl)), (wW_at 86 (by rfl) (by rfl)), (wW_at 686 (by rfl) (by rfl)), (wW_at 208 (by rfl) (by rfl)), ⟨by decide, by decide, by decide +kernel⟩⟩
set_option maxRecDepth 20000 in
theorem cl_X6_103 : qCV RX6 103 1 5 mX5_runsOn := ⟨(wW_at 690 (by rfl) (by rfl)), (wW_at 85 (by rfl) (by rfl)), (wW_at 687 (by rfl) (by rfl)), (wW_at 688 (by rfl) (by rfl)), (wW_at 689 (by rfl) (by rfl)), ⟨by decide, by decide, by decide +kernel⟩, by decide, TX5, 6, rfl⟩
set_option maxRecDepth 20000 in
theorem cl_X6_107 : qCV RX6 107 1 6 mX6_ride := ⟨(wW_at 694 (by rfl) (by rfl)), (wW_at 87 (by rfl) (by rfl)), (wW_at 691 (by rfl) (by rfl)), (wW_at 693 (by rfl) (by rfl)), (wW_at 27 (by rfl) (by rfl)), ⟨by decide, by decide, by decide +kernel⟩, by decide, TX6, 16, rfl⟩
set_option maxRecDepth 20000 in
theorem cl_X6_60 : qCV RX6 60 3 6 mX6_countLegs := ⟨(wW_at 698 (by rfl) (by rfl)), (wW_at 87 (by rfl) (by rfl)), (wW_at 695 (by rfl) (by rfl)), (wW_at 697 (by rfl) (by rfl)), (wW_at 28 (by rfl) (by rfl)), ⟨by decide, by decide, by decide +kernel⟩, by decide, TX6, 16, rfl⟩
set_option maxRecDepth 20000 in
theorem cl_X6_114 : qCV RX6 114 2 6 mX6_lastBoardTo := ⟨(wW_at 702 (by rfl) (by rfl)), (wW_at 87 (by rfl) (by rfl)), (wW_at 699 (by rfl) (by rfl)), (wW_at 701 (by rfl) (by rfl)), (wW_at 29 (by rfl) (by rfl)), ⟨by decide, by decide, by decide +kernel⟩, by decide, TX6, 16, rfl⟩
set_option maxRecDepth 20000 in
theorem cl_X6_118 : qCV RX6 118 2 6 mX6_firstTrain := ⟨(wW_at 706 (by rfl) (by rfl)), (wW_at 87 (by rfl) (by rfl)), (wW_at 703 (by rfl) (by rfl)), (wW_at 705 (by rfl) (by rfl)), (wW_at 30 (by rfl) (by rfl)), ⟨by decide, by decide, by decide +kernel⟩, by decide, TX6, 16, rfl⟩
set_option maxRecDepth 20000 in
theorem cl_X6_121 : qCV RX6 121 2 6 mX6_lastBoardBefore := ⟨(wW_at 710 (by rfl) (by rfl)), (wW_at 87 (by rfl) (by rfl)), (wW_at 707 (by rfl) (by rfl)), (wW_at 709 (by rfl) (by rfl)), (wW_at 31 (by rfl) (by rfl)), ⟨by decide, by decide, by decide +kernel⟩, by decide, TX6, 16, rfl⟩
set_option maxRecDepth 20000 in
theorem cl_X6_127 : qCV RX6 127 4 6 mX6_canChange := ⟨(wW_at 714 (by rfl) (by rfl)), (wW_at 87 (by rfl) (by rfl)), (wW_at 711 (by rfl) (by rfl)), (wW_at 713 (by rfl) (by rfl)), (wW_at 32 (by rfl) (by rfl)), ⟨by decide, by decide, by decide +kernel⟩, by decide, TX6, 16, rfl⟩
set_option maxRecDepth 20000 in
theorem cl_X6_64 : qCV RX6 64 2 6 mX6_chooseTrains := ⟨(wW_at 718 (by rfl) (by rfl)), (wW_at 87 (by rfl) (by rfl)), (wW_at 715 (by rfl) (by rfl)), (wW_at 717 (by rfl) (by rfl)), (wW_at 33 (by rfl) (by rfl)), ⟨by decide, by decide, by decide +kernel⟩, by decide, TX6, 16, rfl⟩
set_option maxRecDepth 20000 in
theorem cl_X6_131 : Cond.methodLink RX6 131 Lib.Math.max.name ∈ wW := (wW_at 719 (by rfl) (by rfl))
set_option maxRecDepth 20000 in
theorem cl_X6_136 : qCV RX6 136 1 6 mX6_chooseTrain := ⟨(wW_at 723 (by rfl) (by rfl)), (wW_at 87 (by rfl) (by rfl)), (wW_at 720 (by rfl) (by rfl)), (wW_at 722 (by rfl) (by rfl)), (wW_at 34 (by rfl) (by rfl)), ⟨by decide, by decide, by decide +kernel⟩, by decide, TX6, 16, rfl⟩
set_option maxRecDepth 20000 in
theorem cl_X6_139 : qCV RX6 139 4 6 mX6_firstBoard := ⟨(wW_at 727 (by rfl) (by rfl)), (wW_at 87 (by rfl) (by rfl)), (wW_at 724 (by rfl) (by rfl)), (wW_at 726 (by rfl) (by rfl)), (wW_at 35 (by rfl) (by rfl)), ⟨by decide, by decide, by decide +kernel⟩, by decide, TX6, 16, rfl⟩
set_option maxRecDepth 20000 in
theorem cl_X6_143 : Cond.methodLink RX6 143 Lib.Math.min.name ∈ wW := (wW_at 728 (by rfl) (by rfl))
set_option maxRecDepth 20000 in
theorem cl_X6_68 : qCV RX6 68 2 6 mX6_chooseStations := ⟨(wW_at 732 (by rfl) (by rfl)), (wW_at 87 (by rfl) (by rfl)), (wW_at 729 (by rfl) (by rfl)), (wW_at 731 (by rfl) (by rfl)), (wW_at 36 (by rfl) (by rfl)), ⟨by decide, by decide, by decide +kernel⟩, by decide, TX6, 16, rfl⟩
set_option maxRecDepth 20000 in
theorem cl_X6_146 : qCV RX6 146 3 6 mX6_limitBefore := ⟨(wW_at 736 (by rfl) (by rfl)), (wW_at 87 (by rfl) (by rfl)), (wW_at 733 (by rfl) (by rfl)), (wW_at 735 (by rfl) (by rfl)), (wW_at 37 (by rfl) (by rfl)), ⟨by decide, by decide, by decide +kernel⟩, by decide, TX6, 16, rfl⟩
set_option maxRecDepth 20000 in
theorem cl_X6_150 : qCV RX6 150 1 6 mX6_leastChange := ⟨(wW_at 740 (by rfl) (by rfl)), (wW_at 87 (by rfl) (by rfl)), (wW_at 737 (by rfl) (by rfl)), (wW_at 739 (by rfl) (by rfl)), (wW_at 38 (by rfl) (by rfl)), ⟨by decide, by decide, by decide +kernel⟩, by decide, TX6, 16, rfl⟩
set_option maxRecDepth 20000 in
theorem cl_X7_153 : qCV RX7 153 1 6 mX6_read := ⟨(wW_at 744 (by rfl) (by rfl)), (wW_at 87 (by rfl) (by rfl)), (wW_at 741 (by rfl) (by rfl)), (wW_at 742 (by rfl) (by rfl)), (wW_at 743 (by rfl) (by rfl)), ⟨by decide, by decide, by decide +kernel⟩, by decide, TX6, 16, rfl⟩
set_option maxRecDepth 20000 in
theorem cl_X6_74 : qCV RX6 74 2 6 mX6_readLeg := ⟨(wW_at 748 (by rfl) (by rfl)), (wW_at 87 (by rfl) (by rfl)), (wW_at 745 (by rfl) (by rfl)), (wW_at 747 (by rfl) (by rfl)), (wW_at 39 (by rfl) (by rfl)), ⟨by decide, by decide, by decide +kernel⟩, by decide, TX6, 16, rfl⟩
set_option maxRecDepth 20000 in
theorem cl_L_93 : qCV RL 93 3 7 mX7_departures := ⟨(wW_at 752 (by rfl) (by rfl)), (wW_at 79 (by rfl) (by rfl)), (wW_at 749 (by rfl) (by rfl)), (wW_at 750 (by rfl) (by rfl)), (wW_at 751 (by rfl) (by rfl)), ⟨by decide, by decide, by decide +kernel⟩, by decide, TX7, 6, rfl⟩
set_option maxRecDepth 20000 in
theorem cl_X7_154 : qCV RX7 154 2 6 mX6_findDepartures := ⟨(wW_at 756 (by rfl) (by rfl)), (wW_at 87 (by rfl) (by rfl)), (wW_at 753 (by rfl) (by rfl)), (wW_at 754 (by rfl) (by rfl)), (wW_at 755 (by rfl) (by rfl)), ⟨by decide, by decide, by decide +kernel⟩, by decide, TX6, 16, rfl⟩
set_option maxRecDepth 20000 in
theorem cl_X6_78 : qCV RX6 78 1 6 mX6_collectMinutes := ⟨(wW_at 760 (by rfl) (by rfl)), (wW_at 87 (by rfl) (by rfl)), (wW_at 757 (by rfl) (by rfl)), (wW_at 759 (by rfl) (by rfl)), (wW_at 40 (by rfl) (by rfl)), ⟨by decide, by decide, by decide +kernel⟩, by decide, TX6, 16, rfl⟩
set_option maxRecDepth 20000 in
theorem cl_X6_154 : qCV RX6 154 1 6 mX6_insertMinute := ⟨(wW_at 764 (by rfl) (by rfl)), (wW_at 87 (by rfl) (by rfl)), (wW_at 761 (by rfl) (by rfl)), (wW_at 763 (by rfl) (by rfl)), (wW_at 41 (by rfl) (by rfl)), ⟨by decide, by decide, by decide +kernel⟩, by decide, TX6, 16, rfl⟩
set_option maxRecDepth 20000 in
theorem cl_L_97 : qCV RL 97 4 7 mX7_departure := ⟨(wW_at 768 (by rfl) (by rfl)), (wW_at 79 (by rfl) (by rfl)), (wW_at 765 (by rfl) (by rfl)), (wW_at 766 (by rfl) (by rfl)), (wW_at 767 (by rfl) (by rfl)), ⟨by decide, by decide, by decide +kernel⟩, by decide, TX7, 6, rfl⟩
set_option maxRecDepth 20000 in
theorem cl_X7_158 : qCV RX7 158 1 6 mX6_departureAt := ⟨(wW_at 772 (by rfl) (by rfl)), (wW_at 87 (by rfl) (by rfl)), (wW_at 769 (by rfl) (by rfl)), (wW_at 770 (by rfl) (by rfl)), (wW_at 771 (by rfl) (by rfl)), ⟨by decide, by decide, by decide +kernel⟩, by decide, TX6, 16, rfl⟩
set_option maxRecDepth 20000 in
theorem cl_L_12 : qCI RL 12 0 mX8_init := ⟨(wW_at 777 (by rfl) (by rfl)), (wW_at 88 (by rfl) (by rfl)), (wW_at 775 (by rfl) (by rfl)), (wW_at 776 (by rfl) (by rfl)), rfl, ⟨by decide, by decide, by decide +kernel⟩, rfl⟩
set_option maxRecDepth 20000 in
theorem cl_X8_1 : Cond.methodLink RX8 1 objectInit ∈ wW := (wW_at 778 (by rfl) (by rfl))
set_option maxRecDepth 20000 in
theorem cl_L_17 : qCV RL 17 1 8 mX8_train := ⟨(wW_at 890 (by rfl) (by rfl)), (wW_at 88 (by rfl) (by rfl)), (wW_at 887 (by rfl) (by rfl)), (wW_at 888 (by rfl) (by rfl)), (wW_at 889 (by rfl) (by rfl)), ⟨by decide, by decide, by decide +kernel⟩, by decide, TX8, 35, rfl⟩
set_option maxRecDepth 20000 in
theorem cl_X8_100 : qCV RX8 100 1 8 mX8_isDays := ⟨(wW_at 894 (by rfl) (by rfl)), (wW_at 88 (by rfl) (by rfl)), (wW_at 891 (by rfl) (by rfl)), (wW_at 893 (by rfl) (by rfl)), (wW_at 42 (by rfl) (by rfl)), ⟨by decide, by decide, by decide +kernel⟩, by decide, TX8, 35, rfl⟩
set_option maxRecDepth 20000 in
theorem cl_L_22 : qCV RL 22 4 8 mX8_stop := ⟨(wW_at 898 (by rfl) (by rfl)), (wW_at 88 (by rfl) (by rfl)), (wW_at 895 (by rfl) (by rfl)), (wW_at 896 (by rfl) (by rfl)), (wW_at 897 (by rfl) (by rfl)), ⟨by decide, by decide, by decide +kernel⟩, by decide, TX8, 35, rfl⟩
set_option maxRecDepth 20000 in
theorem cl_X8_104 : qCV RX8 104 1 8 mX8_isTrain := ⟨(wW_at 902 (by rfl) (by rfl)), (wW_at 88 (by rfl) (by rfl)), (wW_at 899 (by rfl) (by rfl)), (wW_at 901 (by rfl) (by rfl)), (wW_at 43 (by rfl) (by rfl)), ⟨by decide, by decide, by decide +kernel⟩, by decide, TX8, 35, rfl⟩
set_option maxRecDepth 20000 in
theorem cl_X8_107 : qCV RX8 107 1 8 mX8_isStation := ⟨(wW_at 906 (by rfl) (by rfl)), (wW_at 88 (by rfl) (by rfl)), (wW_at 903 (by rfl) (by rfl)), (wW_at 905 (by rfl) (by rfl)), (wW_at 44 (by rfl) (by rfl)), ⟨by decide, by decide, by decide +kernel⟩, by decide, TX8, 35, rfl⟩
set_option maxRecDepth 20000 in
theorem cl_X8_110 : qCV RX8 110 1 8 mX8_isMinute := ⟨(wW_at 910 (by rfl) (by rfl)), (wW_at 88 (by rfl) (by rfl)), (wW_at 907 (by rfl) (by rfl)), (wW_at 909 (by rfl) (by rfl)), (wW_at 45 (by rfl) (by rfl)), ⟨by decide, by decide, by decide +kernel⟩, by decide, TX8, 35, rfl⟩
set_option maxRecDepth 20000 in
theorem cl_X8_113 : qCV RX8 113 2 8 mX8_stopAt := ⟨(wW_at 914 (by rfl) (by rfl)), (wW_at 88 (by rfl) (by rfl)), (wW_at 911 (by rfl) (by rfl)), (wW_at 913 (by rfl) (by rfl)), (wW_at 46 (by rfl) (by rfl)), ⟨by decide, by decide, by decide +kernel⟩, by decide, TX8, 35, rfl⟩
set_option maxRecDepth 20000 in
theorem cl_L_27 : qCV RL 27 2 8 mX8_days := ⟨(wW_at 918 (by rfl) (by rfl)), (wW_at 88 (by rfl) (by rfl)), (wW_at 915 (by rfl) (by rfl)), (wW_at 916 (by rfl) (by rfl)), (wW_at 917 (by rfl) (by rfl)), ⟨by decide, by decide, by decide +kernel⟩, by decide, TX8, 35, rfl⟩
set_option maxRecDepth 20000 in
theorem cl_L_32 : qCV RL 32 1 8 mX8_cut := ⟨(wW_at 922 (by rfl) (by rfl)), (wW_at 88 (by rfl) (by rfl)), (wW_at 919 (by rfl) (by rfl)), (wW_at 920 (by rfl) (by rfl)), (wW_at 921 (by rfl) (by rfl)), ⟨by decide, by decide, by decide +kernel⟩, by decide, TX8, 35, rfl⟩
set_option maxRecDepth 20000 in
theorem cl_L_36 : qCV RL 36 2 8 mX8_shift := ⟨(wW_at 926 (by rfl) (by rfl)), (wW_at 88 (by rfl) (by rfl)), (wW_at 923 (by rfl) (by rfl)), (wW_at 924 (by rfl) (by rfl)), (wW_at 925 (by rfl) (by rfl)), ⟨by decide, by decide, by decide +kernel⟩, by decide, TX8, 35, rfl⟩
set_option maxRecDepth 20000 in
theorem cl_L_40 : qCV RL 40 2 8 mX8_sign := ⟨(wW_at 930 (by rfl) (by rfl)), (wW_at 88 (by rfl) (by rfl)), (wW_at 927 (by rfl) (by rfl)), (wW_at 928 (by rfl) (by rfl)), (wW_at 929 (by rfl) (by rfl)), ⟨by decide, by decide, by decide +kernel⟩, by decide, TX8, 35, rfl⟩
set_option maxRecDepth 20000 in
theorem cl_L_44 : qCV RL 44 1 8 mX8_change := ⟨(wW_at 934 (by rfl) (by rfl)), (wW_at 88 (by rfl) (by rfl)), (wW_at 931 (by rfl) (by rfl)), (wW_at 932 (by rfl) (by rfl)), (wW_at 933 (by rfl) (by rfl)), ⟨by decide, by decide, by decide +kernel⟩, by decide, TX8, 35, rfl⟩
set_option maxRecDepth 20000 in
theorem cl_L_48 : qCV RL 48 1 8 mX8_about := ⟨(wW_at 938 (by rfl) (by rfl)), (wW_at 88 (by rfl) (by rfl)), (wW_at 935 (by rfl) (by rfl)), (wW_at 936 (by rfl) (by rfl)), (wW_at 937 (by rfl) (by rfl)), ⟨by decide, by decide, by decide +kernel⟩, by decide, TX8, 35, rfl⟩
set_option maxRecDepth 20000 in
theorem cl_L_53 : qCV RL 53 2 8 mX8_signs := ⟨(wW_at 942 (by rfl) (by rfl)), (wW_at 88 (by rfl) (by rfl)), (wW_at 939 (by rfl) (by rfl)), (wW_at 940 (by rfl) (by rfl)), (wW_at 941 (by rfl) (by rfl)), ⟨by decide, by decide, by decide +kernel⟩, by decide, TX8, 35, rfl⟩
set_option maxRecDepth 20000 in
theorem cl_X8_123 : qCV RX8 123 1 8 mX8_ones := ⟨(wW_at 946 (by rfl) (by rfl)), (wW_at 88 (by rfl) (by rfl)), (wW_at 943 (by rfl) (by rfl)), (wW_at 945 (by rfl) (by rfl)), (wW_at 47 (by rfl) (by rfl)), ⟨by decide, by decide, by decide +kernel⟩, by decide, TX8, 35, rfl⟩
set_option maxRecDepth 20000 in
theorem cl_L_57 : qCV RL 57 1 8 mX8_table := ⟨(wW_at 950 (by rfl) (by rfl)), (wW_at 88 (by rfl) (by rfl)), (wW_at 947 (by rfl) (by rfl)), (wW_at 948 (by rfl) (by rfl)), (wW_at 949 (by rfl) (by rfl)), ⟨by decide, by decide, by decide +kernel⟩, by decide, TX8, 35, rfl⟩
set_option maxRecDepth 20000 in
theorem cl_X8_167 : qCV RX8 167 0 8 mX8_findRows := ⟨(wW_at 954 (by rfl) (by rfl)), (wW_at 88 (by rfl) (by rfl)), (wW_at 951 (by rfl) (by rfl)), (wW_at 953 (by rfl) (by rfl)), (wW_at 48 (by rfl) (by rfl)), ⟨by decide, by decide, by decide +kernel⟩, by decide, TX8, 35, rfl⟩
set_option maxRecDepth 20000 in
theorem cl_X8_130 : qCV RX8 130 1 8 mX8_isPlace := ⟨(wW_at 958 (by rfl) (by rfl)), (wW_at 88 (by rfl) (by rfl)), (wW_at 955 (by rfl) (by rfl)), (wW_at 957 (by rfl) (by rfl)), (wW_at 49 (by rfl) (by rfl)), ⟨by decide, by decide, by decide +kernel⟩, by decide, TX8, 35, rfl⟩
set_option maxRecDepth 20000 in
theorem cl_X8_127 : qCV RX8 127 2 8 mX8_digit := ⟨(wW_at 962 (by rfl) (by rfl)), (wW_at 88 (by rfl) (by rfl)), (wW_at 959 (by rfl) (by rfl)), (wW_at 961 (by rfl) (by rfl)), (wW_at 50 (by rfl) (by rfl)), ⟨by decide, by decide, by decide +kernel⟩, by decide, TX8, 35, rfl⟩
set_option maxRecDepth 20000 in
theorem cl_X8_133 : qCV RX8 133 2 8 mX8_behind := ⟨(wW_at 966 (by rfl) (by rfl)), (wW_at 88 (by rfl) (by rfl)), (wW_at 963 (by rfl) (by rfl)), (wW_at 965 (by rfl) (by rfl)), (wW_at 51 (by rfl) (by rfl)), ⟨by decide, by decide, by decide +kernel⟩, by decide, TX8, 35, rfl⟩
set_option maxRecDepth 20000 in
theorem cl_X8_170 : qCV RX8 170 0 8 mX8_findColumns := ⟨(wW_at 970 (by rfl) (by rfl)), (wW_at 88 (by rfl) (by rfl)), (wW_at 967 (by rfl) (by rfl)), (wW_at 969 (by rfl) (by rfl)), (wW_at 52 (by rfl) (by rfl)), ⟨by decide, by decide, by decide +kernel⟩, by decide, TX8, 35, rfl⟩
set_option maxRecDepth 20000 in
theorem cl_X8_147 : qCV RX8 147 1 8 mX8_breachesOf := ⟨(wW_at 974 (by rfl) (by rfl)), (wW_at 88 (by rfl) (by rfl)), (wW_at 971 (by rfl) (by rfl)), (wW_at 973 (by rfl) (by rfl)), (wW_at 53 (by rfl) (by rfl)), ⟨by decide, by decide, by decide +kernel⟩, by decide, TX8, 35, rfl⟩
set_option maxRecDepth 20000 in
theorem cl_X8_139 : qCV RX8 139 2 8 mX8_isBreach := ⟨(wW_at 978 (by rfl) (by rfl)), (wW_at 88 (by rfl) (by rfl)), (wW_at 975 (by rfl) (by rfl)), (wW_at 977 (by rfl) (by rfl)), (wW_at 54 (by rfl) (by rfl)), ⟨by decide, by decide, by decide +kernel⟩, by decide, TX8, 35, rfl⟩
set_option maxRecDepth 20000 in
theorem cl_X8_136 : qCV RX8 136 2 8 mX8_leaves := ⟨(wW_at 982 (by rfl) (by rfl)), (wW_at 88 (by rfl) (by rfl)), (wW_at 979 (by rfl) (by rfl)), (wW_at 981 (by rfl) (by rfl)), (wW_at 55 (by rfl) (by rfl)), ⟨by decide, by decide, by decide +kernel⟩, by decide, TX8, 35, rfl⟩
set_option maxRecDepth 20000 in
theorem cl_X8_151 : qCV RX8 151 0 8 mX8_goesOn := ⟨(wW_at 986 (by rfl) (by rfl)), (wW_at 88 (by rfl) (by rfl)), (wW_at 983 (by rfl) (by rfl)), (wW_at 985 (by rfl) (by rfl)), (wW_at 56 (by rfl) (by rfl)), ⟨by decide, by decide, by decide +kernel⟩, by decide, TX8, 35, rfl⟩
set_option maxRecDepth 20000 in
theorem cl_X8_143 : qCV RX8 143 2 8 mX8_swap := ⟨(wW_at 990 (by rfl) (by rfl)), (wW_at 88 (by rfl) (by rfl)), (wW_at 987 (by rfl) (by rfl)), (wW_at 989 (by rfl) (by rfl)), (wW_at 57 (by rfl) (by rfl)), ⟨by decide, by decide, by decide +kernel⟩, by decide, TX8, 35, rfl⟩
set_option maxRecDepth 20000 in
theorem cl_X8_173 : qCV RX8 173 0 8 mX8_findLanes := ⟨(wW_at 994 (by rfl) (by rfl)), (wW_at 88 (by rfl) (by rfl)), (wW_at 991 (by rfl) (by rfl)), (wW_at 993 (by rfl) (by rfl)), (wW_at 58 (by rfl) (by rfl)), ⟨by decide, by decide, by decide +kernel⟩, by decide, TX8, 35, rfl⟩
set_option maxRecDepth 20000 in
theorem cl_X8_158 : qCV RX8 158 1 8 mX8_first := ⟨(wW_at 998 (by rfl) (by rfl)), (wW_at 88 (by rfl) (by rfl)), (wW_at 995 (by rfl) (by rfl)), (wW_at 997 (by rfl) (by rfl)), (wW_at 59 (by rfl) (by rfl)), ⟨by decide, by decide, by decide +kernel⟩, by decide, TX8, 35, rfl⟩
set_option maxRecDepth 20000 in
theorem cl_X8_161 : qCV RX8 161 2 8 mX8_isFree := ⟨(wW_at 1002 (by rfl) (by rfl)), (wW_at 88 (by rfl) (by rfl)), (wW_at 999 (by rfl) (by rfl)), (wW_at 1001 (by rfl) (by rfl)), (wW_at 60 (by rfl) (by rfl)), ⟨by decide, by decide, by decide +kernel⟩, by decide, TX8, 35, rfl⟩
set_option maxRecDepth 20000 in
theorem cl_X8_164 : qCV RX8 164 1 8 mX8_last := ⟨(wW_at 1006 (by rfl) (by rfl)), (wW_at 88 (by rfl) (by rfl)), (wW_at 1003 (by rfl) (by rfl)), (wW_at 1005 (by rfl) (by rfl)), (wW_at 61 (by rfl) (by rfl)), ⟨by decide, by decide, by decide +kernel⟩, by decide, TX8, 35, rfl⟩
set_option maxRecDepth 20000 in
theorem cl_L_61 : qCV RL 61 1 8 mX8_row := ⟨(wW_at 1010 (by rfl) (by rfl)), (wW_at 88 (by rfl) (by rfl)), (wW_at 1007 (by rfl) (by rfl)), (wW_at 1008 (by rfl) (by rfl)), (wW_at 1009 (by rfl) (by rfl)), ⟨by decide, by decide, by decide +kernel⟩, by decide, TX8, 35, rfl⟩
set_option maxRecDepth 20000 in
theorem cl_L_65 : qCV RL 65 1 8 mX8_column := ⟨(wW_at 1014 (by rfl) (by rfl)), (wW_at 88 (by rfl) (by rfl)), (wW_at 1011 (by rfl) (by rfl)), (wW_at 1012 (by rfl) (by rfl)), (wW_at 1013 (by rfl) (by rfl)), ⟨by decide, by decide, by decide +kernel⟩, by decide, TX8, 35, rfl⟩
set_option maxRecDepth 20000 in
theorem cl_X8_176 : qCV RX8 176 1 8 mX8_isColumn := ⟨(wW_at 1018 (by rfl) (by rfl)), (wW_at 88 (by rfl) (by rfl)), (wW_at 1015 (by rfl) (by rfl)), (wW_at 1017 (by rfl) (by rfl)), (wW_at 62 (by rfl) (by rfl)), ⟨by decide, by decide, by decide +kernel⟩, by decide, TX8, 35, rfl⟩
set_option maxRecDepth 20000 in
theorem cl_L_70 : qCV RL 70 3 8 mX8_cell := ⟨(wW_at 1022 (by rfl) (by rfl)), (wW_at 88 (by rfl) (by rfl)), (wW_at 1019 (by rfl) (by rfl)), (wW_at 1020 (by rfl) (by rfl)), (wW_at 1021 (by rfl) (by rfl)), ⟨by decide, by decide, by decide +kernel⟩, by decide, TX8, 35, rfl⟩
set_option maxRecDepth 20000 in
theorem cl_L_74 : qCV RL 74 1 8 mX8_breaches := ⟨(wW_at 1026 (by rfl) (by rfl)), (wW_at 88 (by rfl) (by rfl)), (wW_at 1023 (by rfl) (by rfl)), (wW_at 1024 (by rfl) (by rfl)), (wW_at 1025 (by rfl) (by rfl)), ⟨by decide, by decide, by decide +kernel⟩, by decide, TX8, 35, rfl⟩
set_option maxRecDepth 20000 in
theorem cl_L_78 : qCV RL 78 2 8 mX8_breach := ⟨(wW_at 1030 (by rfl) (by rfl)), (wW_at 88 (by rfl) (by rfl)), (wW_at 1027 (by rfl) (by rfl)), (wW_at 1028 (by rfl) (by rfl)), (wW_at 1029 (by rfl) (by rfl)), ⟨by decide, by decide, by decide +kernel⟩, by decide, TX8, 35, rfl⟩
set_option maxRecDepth 20000 in
theorem cl_L_83 : qCV RL 83 0 8 mX8_lanes := ⟨(wW_at 1034 (by rfl) (by rfl)), (wW_at 88 (by rfl) (by rfl)), (wW_at 1031 (by rfl) (by rfl)), (wW_at 1032 (by rfl) (by rfl)), (wW_at 1033 (by rfl) (by rfl)), ⟨by decide, by decide, by decide +kernel⟩, by decide, TX8, 35, rfl⟩
set_option maxRecDepth 20000 in
theorem cl_L_87 : qCV RL 87 1 8 mX8_lane := ⟨(wW_at 1038 (by rfl) (by rfl)), (wW_at 88 (by rfl) (by rfl)), (wW_at 1035 (by rfl) (by rfl)), (wW_at 1036 (by rfl) (by rfl)), (wW_at 1037 (by rfl) (by rfl)), ⟨by decide, by decide, by decide +kernel⟩, by decide, TX8, 35, rfl⟩
set_option maxRecDepth 20000 in
theorem cl_L_92 : qCV RL 92 5 8 mX8_way := ⟨(wW_at 1042 (by rfl) (by rfl)), (wW_at 88 (by rfl) (by rfl)), (wW_at 1039 (by rfl) (by rfl)), (wW_at 1040 (by rfl) (by rfl)), (wW_at 1041 (by rfl) (by rfl)), ⟨by decide, by decide, by decide +kernel⟩, by decide, TX8, 35, rfl⟩
set_option maxRecDepth 20000 in
theorem cl_X8_225 : qCV RX8 225 4 8 mX8_finds := ⟨(wW_at 1046 (by rfl) (by rfl)), (wW_at 88 (by rfl) (by rfl)), (wW_at 1043 (by rfl) (by rfl)), (wW_at 1045 (by rfl) (by rfl)), (wW_at 63 (by rfl) (by rfl)), ⟨by decide, by decide, by decide +kernel⟩, by decide, TX8, 35, rfl⟩
set_option maxRecDepth 20000 in
theorem cl_X8_204 : qCV RX8 204 4 8 mX8_soonest := ⟨(wW_at 1050 (by rfl) (by rfl)), (wW_at 88 (by rfl) (by rfl)), (wW_at 1047 (by rfl) (by rfl)), (wW_at 1049 (by rfl) (by rfl)), (wW_at 64 (by rfl) (by rfl)), ⟨by decide, by decide, by decide +kernel⟩, by decide, TX8, 35, rfl⟩
set_option maxRecDepth 20000 in
theorem cl_X8_179 : qCV RX8 179 2 8 mX8_runs := ⟨(wW_at 1054 (by rfl) (by rfl)), (wW_at 88 (by rfl) (by rfl)), (wW_at 1051 (by rfl) (by rfl)), (wW_at 1053 (by rfl) (by rfl)), (wW_at 65 (by rfl) (by rfl)), ⟨by decide, by decide, by decide +kernel⟩, by decide, TX8, 35, rfl⟩
set_option maxRecDepth 20000 in
theorem cl_X8_185 : qCV RX8 185 4 8 mX8_isBoarded := ⟨(wW_at 1058 (by rfl) (by rfl)), (wW_at 88 (by rfl) (by rfl)), (wW_at 1055 (by rfl) (by rfl)), (wW_at 1057 (by rfl) (by rfl)), (wW_at 66 (by rfl) (by rfl)), ⟨by decide, by decide, by decide +kernel⟩, by decide, TX8, 35, rfl⟩
set_option maxRecDepth 20000 in
theorem cl_X8_182 : qCV RX8 182 2 8 mX8_canChange := ⟨(wW_at 1062 (by rfl) (by rfl)), (wW_at 88 (by rfl) (by rfl)), (wW_at 1059 (by rfl) (by rfl)), (wW_at 1061 (by rfl) (by rfl)), (wW_at 67 (by rfl) (by rfl)), ⟨by decide, by decide, by decide +kernel⟩, by decide, TX8, 35, rfl⟩
set_option maxRecDepth 20000 in
theorem cl_X8_208 : qCV RX8 208 2 8 mX8_findRest := ⟨(wW_at 1066 (by rfl) (by rfl)), (wW_at 88 (by rfl) (by rfl)), (wW_at 1063 (by rfl) (by rfl)), (wW_at 1065 (by rfl) (by rfl)), (wW_at 68 (by rfl) (by rfl)), ⟨by decide, by decide, by decide +kernel⟩, by decide, TX8, 35, rfl⟩
set_option maxRecDepth 20000 in
theorem cl_X8_192 : qCV RX8 192 3 8 mX8_canGoOn := ⟨(wW_at 1070 (by rfl) (by rfl)), (wW_at 88 (by rfl) (by rfl)), (wW_at 1067 (by rfl) (by rfl)), (wW_at 1069 (by rfl) (by rfl)), (wW_at 69 (by rfl) (by rfl)), ⟨by decide, by decide, by decide +kernel⟩, by decide, TX8, 35, rfl⟩
set_option maxRecDepth 20000 in
theorem cl_X8_214 : qCV RX8 214 5 8 mX8_firstTrain := ⟨(wW_at 1074 (by rfl) (by rfl)), (wW_at 88 (by rfl) (by rfl)), (wW_at 1071 (by rfl) (by rfl)), (wW_at 1073 (by rfl) (by rfl)), (wW_at 70 (by rfl) (by rfl)), ⟨by decide, by decide, by decide +kernel⟩, by decide, TX8, 35, rfl⟩
set_option maxRecDepth 20000 in
theorem cl_X8_200 : qCV RX8 200 5 8 mX8_leavesAt := ⟨(wW_at 1078 (by rfl) (by rfl)), (wW_at 88 (by rfl) (by rfl)), (wW_at 1075 (by rfl) (by rfl)), (wW_at 1077 (by rfl) (by rfl)), (wW_at 71 (by rfl) (by rfl)), ⟨by decide, by decide, by decide +kernel⟩, by decide, TX8, 35, rfl⟩
set_option maxRecDepth 20000 in
theorem cl_X8_196 : qCV RX8 196 4 8 mX8_canBoard := ⟨(wW_at 1082 (by rfl) (by rfl)), (wW_at 88 (by rfl) (by rfl)), (wW_at 1079 (by rfl) (by rfl)), (wW_at 1081 (by rfl) (by rfl)), (wW_at 72 (by rfl) (by rfl)), ⟨by decide, by decide, by decide +kernel⟩, by decide, TX8, 35, rfl⟩
set_option maxRecDepth 20000 in
theorem cl_X8_218 : qCV RX8 218 5 8 mX8_boardOf := ⟨(wW_at 1086 (by rfl) (by rfl)), (wW_at 88 (by rfl) (by rfl)), (wW_at 1083 (by rfl) (by rfl)), (wW_at 1085 (by rfl) (by rfl)), (wW_at 73 (by rfl) (by rfl)), ⟨by decide, by decide, by decide +kernel⟩, by decide, TX8, 35, rfl⟩
set_option maxRecDepth 20000 in
theorem cl_X8_222 : qCV RX8 222 3 8 mX8_restGoes := ⟨(wW_at 1090 (by rfl) (by rfl)), (wW_at 88 (by rfl) (by rfl)), (wW_at 1087 (by rfl) (by rfl)), (wW_at 1089 (by rfl) (by rfl)), (wW_at 74 (by rfl) (by rfl)), ⟨by decide, by decide, by decide +kernel⟩, by decide, TX8, 35, rfl⟩
set_option maxRecDepth 20000 in
theorem cl_L_96 : qCV RL 96 3 8 mX8_departures := ⟨(wW_at 1094 (by rfl) (by rfl)), (wW_at 88 (by rfl) (by rfl)), (wW_at 1091 (by rfl) (by rfl)), (wW_at 1092 (by rfl) (by rfl)), (wW_at 1093 (by rfl) (by rfl)), ⟨by decide, by decide, by decide +kernel⟩, by decide, TX8, 35, rfl⟩
set_option maxRecDepth 20000 in
theorem cl_X8_234 : qCV RX8 234 3 8 mX8_canDepart := ⟨(wW_at 1098 (by rfl) (by rfl)), (wW_at 88 (by rfl) (by rfl)), (wW_at 1095 (by rfl) (by rfl)), (wW_at 1097 (by rfl) (by rfl)), (wW_at 75 (by rfl) (by rfl)), ⟨by decide, by decide, by decide +kernel⟩, by decide, TX8, 35, rfl⟩
set_option maxRecDepth 20000 in
theorem cl_X8_237 : qCV RX8 237 3 8 mX8_findDepartures := ⟨(wW_at 1102 (by rfl) (by rfl)), (wW_at 88 (by rfl) (by rfl)), (wW_at 1099 (by rfl) (by rfl)), (wW_at 1101 (by rfl) (by rfl)), (wW_at 76 (by rfl) (by rfl)), ⟨by decide, by decide, by decide +kernel⟩, by decide, TX8, 35, rfl⟩
set_option maxRecDepth 20000 in
theorem cl_X8_231 : qCV RX8 231 3 8 mX8_isGone := ⟨(wW_at 1106 (by rfl) (by rfl)), (wW_at 88 (by rfl) (by rfl)), (wW_at 1103 (by rfl) (by rfl)), (wW_at 1105 (by rfl) (by rfl)), (wW_at 77 (by rfl) (by rfl)), ⟨by decide, by decide, by decide +kernel⟩, by decide, TX8, 35, rfl⟩
set_option maxRecDepth 20000 in
theorem cl_L_100 : qCV RL 100 4 8 mX8_departure := ⟨(wW_at 1110 (by rfl) (by rfl)), (wW_at 88 (by rfl) (by rfl)), (wW_at 1107 (by rfl) (by rfl)), (wW_at 1108 (by rfl) (by rfl)), (wW_at 1109 (by rfl) (by rfl)), ⟨by decide, by decide, by decide +kernel⟩, by decide, TX8, 35, rfl⟩
/-! the rest -/
set_option maxRecDepth 20000 in
theorem cx_min_s : Cond.static Lib.Math.min.name ∈ wW := (wW_at 445 (by rfl) (by rfl))
set_option maxRecDepth 20000 in
theorem cx_min_c : Cond.code Lib.Math.min.name Lib.Math.min.code 2 (some .int) ∈ wW := wW_at 446 (by rfl) (by rfl)
set_option maxRecDepth 20000 in
theorem cx_max_s : Cond.static Lib.Math.max.name ∈ wW := (wW_at 512 (by rfl) (by rfl))
set_option maxRecDepth 20000 in
theorem cx_max_c : Cond.code Lib.Math.max.name Lib.Math.max.code 2 (some .int) ∈ wW := wW_at 513 (by rfl) (by rfl)
set_option maxRecDepth 20000 in
theorem cx_math : Cond.initialized "java/lang/Math" ∈ wW := (wW_at 90 (by rfl) (by rfl))
set_option maxRecDepth 20000 in
theorem cx_sys : Cond.initialized "java/lang/System" ∈ wW := (wW_at 91 (by rfl) (by rfl))
set_option maxRecDepth 20000 in
theorem cx_cpn : Cond.native arraycopyName ∈ wW := (wW_at 470 (by rfl) (by rfl))
set_option maxRecDepth 20000 in
theorem cx_cps : Cond.static arraycopyName ∈ wW := (wW_at 469 (by rfl) (by rfl))
set_option maxRecDepth 20000 in
theorem cx_oi : Cond.instanceMethod objectInit ∈ wW := (wW_at 98 (by rfl) (by rfl))
set_option maxRecDepth 20000 in
theorem cx_oc : Cond.code objectInit ⟨#[0xb1]⟩ 1 none ∈ wW := wW_at 99 (by rfl) (by rfl)
set_option maxRecDepth 20000 in
theorem cc_L_7 : Cond.classLink RL 7 RX7 ∈ wW := (wW_at 92 (by rfl) (by rfl))
set_option maxRecDepth 20000 in
theorem cc_X7_9 : Cond.classLink RX7 9 RX5 ∈ wW := (wW_at 100 (by rfl) (by rfl))
set_option maxRecDepth 20000 in
theorem cc_X7_15 : Cond.classLink RX7 15 RX3 ∈ wW := (wW_at 102 (by rfl) (by rfl))
set_option maxRecDepth 20000 in
theorem ca_int : Cond.arrayClass .int ∈ wW := (wW_at 112 (by rfl) (by rfl))
set_option maxRecDepth 20000 in
theorem cc_X7_22 : Cond.classLink RX7 22 RX4 ∈ wW := (wW_at 113 (by rfl) (by rfl))
set_option maxRecDepth 20000 in
theorem cc_X4_9 : Cond.classLink RX4 9 RX5 ∈ wW := (wW_at 119 (by rfl) (by rfl))
set_option maxRecDepth 20000 in
theorem cc_X4_24 : Cond.classLink RX4 24 RX2 ∈ wW := (wW_at 120 (by rfl) (by rfl))
set_option maxRecDepth 20000 in
theorem cc_X4_31 : Cond.classLink RX4 31 RX0 ∈ wW := (wW_at 156 (by rfl) (by rfl))
set_option maxRecDepth 20000 in
theorem cc_X4_38 : Cond.classLink RX4 38 RX1 ∈ wW := (wW_at 184 (by rfl) (by rfl))
set_option maxRecDepth 20000 in
theorem cc_X7_29 : Cond.classLink RX7 29 RX6 ∈ wW := (wW_at 264 (by rfl) (by rfl))
set_option maxRecDepth 20000 in
theorem cc_X6_9 : Cond.classLink RX6 9 RX5 ∈ wW := (wW_at 270 (by rfl) (by rfl))
set_option maxRecDepth 20000 in
theorem ck_X5_34 : Cond.constantLong RX5 34 (1440) ∈ wW := (wW_at 386 (by rfl) (by rfl))
set_option maxRecDepth 20000 in
theorem ck_J6_265 : Cond.constant RJ6 265 (1431655765) ∈ wW := (wW_at 441 (by rfl) (by rfl))
set_option maxRecDepth 20000 in
theorem ck_J6_266 : Cond.constant RJ6 266 (858993459) ∈ wW := (wW_at 442 (by rfl) (by rfl))
set_option maxRecDepth 20000 in
theorem ck_J6_267 : Cond.constant RJ6 267 (252645135) ∈ wW := (wW_at 443 (by rfl) (by rfl))
set_option maxRecDepth 20000 in
theorem ck_X2_88 : Cond.constant RX2 88 (16777216) ∈ wW := (wW_at 492 (by rfl) (by rfl))
set_option maxRecDepth 20000 in
theorem ck_X6_59 : Cond.constant RX6 59 (1000000) ∈ wW := (wW_at 685 (by rfl) (by rfl))
set_option maxRecDepth 20000 in
theorem cc_L_10 : Cond.classLink RL 10 RX8 ∈ wW := (wW_at 773 (by rfl) (by rfl))
set_option maxRecDepth 20000 in
theorem ck_X8_59 : Cond.constant RX8 59 (262144) ∈ wW := (wW_at 779 (by rfl) (by rfl))
set_option maxRecDepth 20000 in
theorem ca_boolean : Cond.arrayClass .boolean ∈ wW := (wW_at 886 (by rfl) (by rfl))
set_option maxRecDepth 20000 in
theorem cn_X0 : Cond.instantiable RX0 6 ∈ wW := (wW_at 157 (by rfl) (by rfl))
set_option maxRecDepth 20000 in
theorem ci_X0 : Cond.initialized RX0 ∈ wW := (wW_at 83 (by rfl) (by rfl))
set_option maxRecDepth 20000 in
theorem cn_X1 : Cond.instantiable RX1 3 ∈ wW := (wW_at 185 (by rfl) (by rfl))
set_option maxRecDepth 20000 in
theorem ci_X1 : Cond.initialized RX1 ∈ wW := (wW_at 84 (by rfl) (by rfl))
set_option maxRecDepth 20000 in
theorem cn_X2 : Cond.instantiable RX2 9 ∈ wW := (wW_at 121 (by rfl) (by rfl))
set_option maxRecDepth 20000 in
theorem ci_X2 : Cond.initialized RX2 ∈ wW := (wW_at 82 (by rfl) (by rfl))
set_option maxRecDepth 20000 in
theorem cn_X3 : Cond.instantiable RX3 1 ∈ wW := (wW_at 103 (by rfl) (by rfl))
set_option maxRecDepth 20000 in
theorem ci_X3 : Cond.initialized RX3 ∈ wW := (wW_at 80 (by rfl) (by rfl))
set_option maxRecDepth 20000 in
theorem cn_X4 : Cond.instantiable RX4 7 ∈ wW := (wW_at 114 (by rfl) (by rfl))
set_option maxRecDepth 20000 in
theorem ci_X4 : Cond.initialized RX4 ∈ wW := (wW_at 81 (by rfl) (by rfl))
set_option maxRecDepth 20000 in
theorem cn_X5 : Cond.instantiable RX5 6 ∈ wW := (wW_at 202 (by rfl) (by rfl))
set_option maxRecDepth 20000 in
theorem ci_X5 : Cond.initialized RX5 ∈ wW := (wW_at 85 (by rfl) (by rfl))
set_option maxRecDepth 20000 in
theorem cn_X6 : Cond.instantiable RX6 16 ∈ wW := (wW_at 265 (by rfl) (by rfl))
set_option maxRecDepth 20000 in
theorem ci_X6 : Cond.initialized RX6 ∈ wW := (wW_at 87 (by rfl) (by rfl))
set_option maxRecDepth 20000 in
theorem cn_X7 : Cond.instantiable RX7 6 ∈ wW := (wW_at 93 (by rfl) (by rfl))
set_option maxRecDepth 20000 in
theorem ci_X7 : Cond.initialized RX7 ∈ wW := (wW_at 79 (by rfl) (by rfl))
set_option maxRecDepth 20000 in
theorem cn_X8 : Cond.instantiable RX8 35 ∈ wW := (wW_at 774 (by rfl) (by rfl))
set_option maxRecDepth 20000 in
theorem ci_X8 : Cond.initialized RX8 ∈ wW := (wW_at 88 (by rfl) (by rfl))
end
section
theorem dX0_init_0 : decode cX0_init 0 = .ok (.aload_n 0, 1) := by decide +kernel
theorem dX0_init_1 : decode cX0_init 1 = .ok (.invokespecial 3, 3) := by decide +kernel
theorem dX0_init_4 : decode cX0_init 4 = .ok (.aload_n 0, 1) := by decide +kernel
theorem dX0_init_5 : decode cX0_init 5 = .ok (.bipush 6, 2) := by decide +kernel
theorem dX0_init_7 : decode cX0_init 7 = .ok (.newarray .int, 2) := by decide +kernel
theorem dX0_init_9 : decode cX0_init 9 = .ok (.putfield 9, 3) := by decide +kernel
theorem dX0_init_12 : decode cX0_init 12 = .ok (.aload_n 0, 1) := by decide +kernel
theorem dX0_init_13 : decode cX0_init 13 = .ok (.bipush 6, 2) := by decide +kernel
theorem dX0_init_15 : decode cX0_init 15 = .ok (.newarray .int, 2) := by decide +kernel
theorem dX0_init_17 : decode cX0_init 17 = .ok (.putfield 15, 3) := by decide +kernel
theorem dX0_init_20 : decode cX0_init 20 = .ok (.aload_n 0, 1) := by decide +kernel
theorem dX0_init_21 : decode cX0_init 21 = .ok (.bipush 64, 2) := by decide +kernel
theorem dX0_init_23 : decode cX0_init 23 = .ok (.newarray .int, 2) := by decide +kernel
theorem dX0_init_25 : decode cX0_init 25 = .ok (.putfield 18, 3) := by decide +kernel
theorem dX0_init_28 : decode cX0_init 28 = .ok (.return_, 1) := by decide +kernel
theorem dX0_arrange_0 : decode cX0_arrange 0 = .ok (.aload_n 0, 1) := by decide +kernel
theorem dX0_arrange_1 : decode cX0_arrange 1 = .ok (.iload_n 2, 1) := by decide +kernel
theorem dX0_arrange_2 : decode cX0_arrange 2 = .ok (.putfield 21, 3) := by decide +kernel
theorem dX0_arrange_5 : decode cX0_arrange 5 = .ok (.aload_n 0, 1) := by decide +kernel
theorem dX0_arrange_6 : decode cX0_arrange 6 = .ok (.iconst 0, 1) := by decide +kernel
theorem dX0_arrange_7 : decode cX0_arrange 7 = .ok (.putfield 25, 3) := by decide +kernel
theorem dX0_arrange_10 : decode cX0_arrange 10 = .ok (.iconst 0, 1) := by decide +kernel
theorem dX0_arrange_11 : decode cX0_arrange 11 = .ok (.istore_n 3, 1) := by decide +kernel
theorem dX0_arrange_12 : decode cX0_arrange 12 = .ok (.iload_n 3, 1) := by decide +kernel
theorem dX0_arrange_13 : decode cX0_arrange 13 = .ok (.iload_n 2, 1) := by decide +kernel
theorem dX0_arrange_14 : decode cX0_arrange 14 = .ok (.if_icmp .ge 21, 3) := by decide +kernel
theorem dX0_arrange_17 : decode cX0_arrange 17 = .ok (.aload_n 0, 1) := by decide +kernel
theorem dX0_arrange_18 : decode cX0_arrange 18 = .ok (.getfield 15, 3) := by decide +kernel
theorem dX0_arrange_21 : decode cX0_arrange 21 = .ok (.iload_n 3, 1) := by decide +kernel
theorem dX0_arrange_22 : decode cX0_arrange 22 = .ok (.aload_n 0, 1) := by decide +kernel
theorem dX0_arrange_23 : decode cX0_arrange 23 = .ok (.aload_n 1, 1) := by decide +kernel
theorem dX0_arrange_24 : decode cX0_arrange 24 = .ok (.iload_n 3, 1) := by decide +kernel
theorem dX0_arrange_25 : decode cX0_arrange 25 = .ok (.invokevirtual 28, 3) := by decide +kernel
theorem dX0_arrange_28 : decode cX0_arrange 28 = .ok (.iastore, 1) := by decide +kernel
theorem dX0_arrange_29 : decode cX0_arrange 29 = .ok (.iinc 3 1, 3) := by decide +kernel
theorem dX0_arrange_32 : decode cX0_arrange 32 = .ok (.goto (-20), 3) := by decide +kernel
theorem dX0_arrange_35 : decode cX0_arrange 35 = .ok (.iconst 0, 1) := by decide +kernel
theorem dX0_arrange_36 : decode cX0_arrange 36 = .ok (.istore_n 3, 1) := by decide +kernel
theorem dX0_arrange_37 : decode cX0_arrange 37 = .ok (.iload_n 3, 1) := by decide +kernel
theorem dX0_arrange_38 : decode cX0_arrange 38 = .ok (.iload_n 2, 1) := by decide +kernel
theorem dX0_arrange_39 : decode cX0_arrange 39 = .ok (.if_icmp .ge 58, 3) := by decide +kernel
theorem dX0_arrange_42 : decode cX0_arrange 42 = .ok (.iconst 0, 1) := by decide +kernel
theorem dX0_arrange_43 : decode cX0_arrange 43 = .ok (.istore 4, 2) := by decide +kernel
theorem dX0_arrange_45 : decode cX0_arrange 45 = .ok (.iload 4, 2) := by decide +kernel
theorem dX0_arrange_47 : decode cX0_arrange 47 = .ok (.iload_n 3, 1) := by decide +kernel
theorem dX0_arrange_48 : decode cX0_arrange 48 = .ok (.if_icmp .ge 43, 3) := by decide +kernel
theorem dX0_arrange_51 : decode cX0_arrange 51 = .ok (.aload_n 0, 1) := by decide +kernel
theorem dX0_arrange_52 : decode cX0_arrange 52 = .ok (.dup, 1) := by decide +kernel
theorem dX0_arrange_53 : decode cX0_arrange 53 = .ok (.getfield 25, 3) := by decide +kernel
theorem dX0_arrange_56 : decode cX0_arrange 56 = .ok (.aload_n 0, 1) := by decide +kernel
theorem dX0_arrange_57 : decode cX0_arrange 57 = .ok (.iload_n 3, 1) := by decide +kernel
theorem dX0_arrange_58 : decode cX0_arrange 58 = .ok (.iload 4, 2) := by decide +kernel
theorem dX0_arrange_60 : decode cX0_arrange 60 = .ok (.invokevirtual 32, 3) := by decide +kernel
theorem dX0_arrange_63 : decode cX0_arrange 63 = .ok (.ifCond .eq 17, 3) := by decide +kernel
theorem dX0_arrange_66 : decode cX0_arrange 66 = .ok (.aload_n 0, 1) := by decide +kernel
theorem dX0_arrange_67 : decode cX0_arrange 67 = .ok (.iload 4, 2) := by decide +kernel
theorem dX0_arrange_69 : decode cX0_arrange 69 = .ok (.iload_n 3, 1) := by decide +kernel
theorem dX0_arrange_70 : decode cX0_arrange 70 = .ok (.invokevirtual 32, 3) := by decide +kernel
theorem dX0_arrange_73 : decode cX0_arrange 73 = .ok (.ifCond .eq 7, 3) := by decide +kernel
theorem dX0_arrange_76 : decode cX0_arrange 76 = .ok (.iconst 1, 1) := by decide +kernel
theorem dX0_arrange_77 : decode cX0_arrange 77 = .ok (.goto 4, 3) := by decide +kernel
theorem dX0_arrange_80 : decode cX0_arrange 80 = .ok (.iconst 0, 1) := by decide +kernel
theorem dX0_arrange_81 : decode cX0_arrange 81 = .ok (.iadd, 1) := by decide +kernel
theorem dX0_arrange_82 : decode cX0_arrange 82 = .ok (.putfield 25, 3) := by decide +kernel
theorem dX0_arrange_85 : decode cX0_arrange 85 = .ok (.iinc 4 1, 3) := by decide +kernel
theorem dX0_arrange_88 : decode cX0_arrange 88 = .ok (.goto (-43), 3) := by decide +kernel
theorem dX0_arrange_91 : decode cX0_arrange 91 = .ok (.iinc 3 1, 3) := by decide +kernel
theorem dX0_arrange_94 : decode cX0_arrange 94 = .ok (.goto (-57), 3) := by decide +kernel
theorem dX0_arrange_97 : decode cX0_arrange 97 = .ok (.aload_n 0, 1) := by decide +kernel
theorem dX0_arrange_98 : decode cX0_arrange 98 = .ok (.invokevirtual 36, 3) := by decide +kernel
theorem dX0_arrange_101 : decode cX0_arrange 101 = .ok (.aload_n 0, 1) := by decide +kernel
theorem dX0_arrange_102 : decode cX0_arrange 102 = .ok (.aload_n 0, 1) := by decide +kernel
theorem dX0_arrange_103 : decode cX0_arrange 103 = .ok (.getfield 18, 3) := by decide +kernel
theorem dX0_arrange_106 : decode cX0_arrange 106 = .ok (.iconst 0, 1) := by decide +kernel
theorem dX0_arrange_107 : decode cX0_arrange 107 = .ok (.iaload, 1) := by decide +kernel
theorem dX0_arrange_108 : decode cX0_arrange 108 = .ok (.putfield 39, 3) := by decide +kernel
theorem dX0_arrange_111 : decode cX0_arrange 111 = .ok (.aload_n 0, 1) := by decide +kernel
theorem dX0_arrange_112 : decode cX0_arrange 112 = .ok (.invokevirtual 42, 3) := by decide +kernel
theorem dX0_arrange_115 : decode cX0_arrange 115 = .ok (.return_, 1) := by decide +kernel
theorem dX0_wouldBreach_0 : decode cX0_wouldBreach 0 = .ok (.aload_n 0, 1) := by decide +kernel
theorem dX0_wouldBreach_1 : decode cX0_wouldBreach 1 = .ok (.getfield 15, 3) := by decide +kernel
theorem dX0_wouldBreach_4 : decode cX0_wouldBreach 4 = .ok (.iload_n 1, 1) := by decide +kernel
theorem dX0_wouldBreach_5 : decode cX0_wouldBreach 5 = .ok (.iaload, 1) := by decide +kernel
theorem dX0_wouldBreach_6 : decode cX0_wouldBreach 6 = .ok (.iload_n 2, 1) := by decide +kernel
theorem dX0_wouldBreach_7 : decode cX0_wouldBreach 7 = .ok (.ishr, 1) := by decide +kernel
theorem dX0_wouldBreach_8 : decode cX0_wouldBreach 8 = .ok (.iconst 1, 1) := by decide +kernel
theorem dX0_wouldBreach_9 : decode cX0_wouldBreach 9 = .ok (.iand, 1) := by decide +kernel
theorem dX0_wouldBreach_10 : decode cX0_wouldBreach 10 = .ok (.ifCond .eq 7, 3) := by decide +kernel
theorem dX0_wouldBreach_13 : decode cX0_wouldBreach 13 = .ok (.iconst 1, 1) := by decide +kernel
theorem dX0_wouldBreach_14 : decode cX0_wouldBreach 14 = .ok (.goto 4, 3) := by decide +kernel
theorem dX0_wouldBreach_17 : decode cX0_wouldBreach 17 = .ok (.iconst 0, 1) := by decide +kernel
theorem dX0_wouldBreach_18 : decode cX0_wouldBreach 18 = .ok (.ireturn, 1) := by decide +kernel
theorem dX0_breachedBy_0 : decode cX0_breachedBy 0 = .ok (.iconst 0, 1) := by decide +kernel
theorem dX0_breachedBy_1 : decode cX0_breachedBy 1 = .ok (.istore_n 3, 1) := by decide +kernel
theorem dX0_breachedBy_2 : decode cX0_breachedBy 2 = .ok (.iconst 0, 1) := by decide +kernel
theorem dX0_breachedBy_3 : decode cX0_breachedBy 3 = .ok (.istore 4, 2) := by decide +kernel
theorem dX0_breachedBy_5 : decode cX0_breachedBy 5 = .ok (.iload 4, 2) := by decide +kernel
theorem dX0_breachedBy_7 : decode cX0_breachedBy 7 = .ok (.aload_n 0, 1) := by decide +kernel
theorem dX0_breachedBy_8 : decode cX0_breachedBy 8 = .ok (.getfield 21, 3) := by decide +kernel
theorem dX0_breachedBy_11 : decode cX0_breachedBy 11 = .ok (.if_icmp .ge 35, 3) := by decide +kernel
theorem dX0_breachedBy_14 : decode cX0_breachedBy 14 = .ok (.iload 4, 2) := by decide +kernel
theorem dX0_breachedBy_16 : decode cX0_breachedBy 16 = .ok (.iload_n 2, 1) := by decide +kernel
theorem dX0_breachedBy_17 : decode cX0_breachedBy 17 = .ok (.if_icmp .eq 23, 3) := by decide +kernel
theorem dX0_breachedBy_20 : decode cX0_breachedBy 20 = .ok (.aload_n 1, 1) := by decide +kernel
theorem dX0_breachedBy_21 : decode cX0_breachedBy 21 = .ok (.iload_n 2, 1) := by decide +kernel
theorem dX0_breachedBy_22 : decode cX0_breachedBy 22 = .ok (.aaload, 1) := by decide +kernel
theorem dX0_breachedBy_23 : decode cX0_breachedBy 23 = .ok (.aload_n 1, 1) := by decide +kernel
theorem dX0_breachedBy_24 : decode cX0_breachedBy 24 = .ok (.iload 4, 2) := by decide +kernel
theorem dX0_breachedBy_26 : decode cX0_breachedBy 26 = .ok (.aaload, 1) := by decide +kernel
theorem dX0_breachedBy_27 : decode cX0_breachedBy 27 = .ok (.invokevirtual 45, 3) := by decide +kernel
theorem dX0_breachedBy_30 : decode cX0_breachedBy 30 = .ok (.ifCond .eq 10, 3) := by decide +kernel
theorem dX0_breachedBy_33 : decode cX0_breachedBy 33 = .ok (.iload_n 3, 1) := by decide +kernel
theorem dX0_breachedBy_34 : decode cX0_breachedBy 34 = .ok (.iconst 1, 1) := by decide +kernel
theorem dX0_breachedBy_35 : decode cX0_breachedBy 35 = .ok (.iload 4, 2) := by decide +kernel
theorem dX0_breachedBy_37 : decode cX0_breachedBy 37 = .ok (.ishl, 1) := by decide +kernel
theorem dX0_breachedBy_38 : decode cX0_breachedBy 38 = .ok (.ior, 1) := by decide +kernel
theorem dX0_breachedBy_39 : decode cX0_breachedBy 39 = .ok (.istore_n 3, 1) := by decide +kernel
theorem dX0_breachedBy_40 : decode cX0_breachedBy 40 = .ok (.iinc 4 1, 3) := by decide +kernel
theorem dX0_breachedBy_43 : decode cX0_breachedBy 43 = .ok (.goto (-38), 3) := by decide +kernel
theorem dX0_breachedBy_46 : decode cX0_breachedBy 46 = .ok (.iload_n 3, 1) := by decide +kernel
theorem dX0_breachedBy_47 : decode cX0_breachedBy 47 = .ok (.ireturn, 1) := by decide +kernel
theorem dX0_fillFewest_0 : decode cX0_fillFewest 0 = .ok (.iconst 1, 1) := by decide +kernel
theorem dX0_fillFewest_1 : decode cX0_fillFewest 1 = .ok (.aload_n 0, 1) := by decide +kernel
theorem dX0_fillFewest_2 : decode cX0_fillFewest 2 = .ok (.getfield 21, 3) := by decide +kernel
theorem dX0_fillFewest_5 : decode cX0_fillFewest 5 = .ok (.ishl, 1) := by decide +kernel
theorem dX0_fillFewest_6 : decode cX0_fillFewest 6 = .ok (.iconst 1, 1) := by decide +kernel
theorem dX0_fillFewest_7 : decode cX0_fillFewest 7 = .ok (.isub, 1) := by decide +kernel
theorem dX0_fillFewest_8 : decode cX0_fillFewest 8 = .ok (.istore_n 1, 1) := by decide +kernel
theorem dX0_fillFewest_9 : decode cX0_fillFewest 9 = .ok (.aload_n 0, 1) := by decide +kernel
theorem dX0_fillFewest_10 : decode cX0_fillFewest 10 = .ok (.getfield 18, 3) := by decide +kernel
theorem dX0_fillFewest_13 : decode cX0_fillFewest 13 = .ok (.iload_n 1, 1) := by decide +kernel
theorem dX0_fillFewest_14 : decode cX0_fillFewest 14 = .ok (.iconst 0, 1) := by decide +kernel
theorem dX0_fillFewest_15 : decode cX0_fillFewest 15 = .ok (.iastore, 1) := by decide +kernel
theorem dX0_fillFewest_16 : decode cX0_fillFewest 16 = .ok (.iload_n 1, 1) := by decide +kernel
theorem dX0_fillFewest_17 : decode cX0_fillFewest 17 = .ok (.iconst 1, 1) := by decide +kernel
theorem dX0_fillFewest_18 : decode cX0_fillFewest 18 = .ok (.isub, 1) := by decide +kernel
theorem dX0_fillFewest_19 : decode cX0_fillFewest 19 = .ok (.istore_n 2, 1) := by decide +kernel
theorem dX0_fillFewest_20 : decode cX0_fillFewest 20 = .ok (.iload_n 2, 1) := by decide +kernel
theorem dX0_fillFewest_21 : decode cX0_fillFewest 21 = .ok (.ifCond .lt 58, 3) := by decide +kernel
theorem dX0_fillFewest_24 : decode cX0_fillFewest 24 = .ok (.bipush 36, 2) := by decide +kernel
theorem dX0_fillFewest_26 : decode cX0_fillFewest 26 = .ok (.istore_n 3, 1) := by decide +kernel
theorem dX0_fillFewest_27 : decode cX0_fillFewest 27 = .ok (.iconst 0, 1) := by decide +kernel
theorem dX0_fillFewest_28 : decode cX0_fillFewest 28 = .ok (.istore 4, 2) := by decide +kernel
theorem dX0_fillFewest_30 : decode cX0_fillFewest 30 = .ok (.iload 4, 2) := by decide +kernel
theorem dX0_fillFewest_32 : decode cX0_fillFewest 32 = .ok (.aload_n 0, 1) := by decide +kernel
theorem dX0_fillFewest_33 : decode cX0_fillFewest 33 = .ok (.getfield 21, 3) := by decide +kernel
theorem dX0_fillFewest_36 : decode cX0_fillFewest 36 = .ok (.if_icmp .ge 30, 3) := by decide +kernel
theorem dX0_fillFewest_39 : decode cX0_fillFewest 39 = .ok (.iload_n 2, 1) := by decide +kernel
theorem dX0_fillFewest_40 : decode cX0_fillFewest 40 = .ok (.iload 4, 2) := by decide +kernel
theorem dX0_fillFewest_42 : decode cX0_fillFewest 42 = .ok (.ishr, 1) := by decide +kernel
theorem dX0_fillFewest_43 : decode cX0_fillFewest 43 = .ok (.iconst 1, 1) := by decide +kernel
theorem dX0_fillFewest_44 : decode cX0_fillFewest 44 = .ok (.iand, 1) := by decide +kernel
theorem dX0_fillFewest_45 : decode cX0_fillFewest 45 = .ok (.ifCond .ne 15, 3) := by decide +kernel
theorem dX0_fillFewest_48 : decode cX0_fillFewest 48 = .ok (.iload_n 3, 1) := by decide +kernel
theorem dX0_fillFewest_49 : decode cX0_fillFewest 49 = .ok (.aload_n 0, 1) := by decide +kernel
theorem dX0_fillFewest_50 : decode cX0_fillFewest 50 = .ok (.iload_n 2, 1) := by decide +kernel
theorem dX0_fillFewest_51 : decode cX0_fillFewest 51 = .ok (.iload 4, 2) := by decide +kernel
theorem dX0_fillFewest_53 : decode cX0_fillFewest 53 = .ok (.invokevirtual 51, 3) := by decide +kernel
theorem dX0_fillFewest_56 : decode cX0_fillFewest 56 = .ok (.invokestatic 55, 3) := by decide +kernel
theorem dX0_fillFewest_59 : decode cX0_fillFewest 59 = .ok (.istore_n 3, 1) := by decide +kernel
theorem dX0_fillFewest_60 : decode cX0_fillFewest 60 = .ok (.iinc 4 1, 3) := by decide +kernel
theorem dX0_fillFewest_63 : decode cX0_fillFewest 63 = .ok (.goto (-33), 3) := by decide +kernel
theorem dX0_fillFewest_66 : decode cX0_fillFewest 66 = .ok (.aload_n 0, 1) := by decide +kernel
theorem dX0_fillFewest_67 : decode cX0_fillFewest 67 = .ok (.getfield 18, 3) := by decide +kernel
theorem dX0_fillFewest_70 : decode cX0_fillFewest 70 = .ok (.iload_n 2, 1) := by decide +kernel
theorem dX0_fillFewest_71 : decode cX0_fillFewest 71 = .ok (.iload_n 3, 1) := by decide +kernel
theorem dX0_fillFewest_72 : decode cX0_fillFewest 72 = .ok (.iastore, 1) := by decide +kernel
theorem dX0_fillFewest_73 : decode cX0_fillFewest 73 = .ok (.iinc 2 (-1), 3) := by decide +kernel
theorem dX0_fillFewest_76 : decode cX0_fillFewest 76 = .ok (.goto (-56), 3) := by decide +kernel
theorem dX0_fillFewest_79 : decode cX0_fillFewest 79 = .ok (.return_, 1) := by decide +kernel
theorem dX0_fewestWith_0 : decode cX0_fewestWith 0 = .ok (.aload_n 0, 1) := by decide +kernel
theorem dX0_fewestWith_1 : decode cX0_fewestWith 1 = .ok (.getfield 15, 3) := by decide +kernel
theorem dX0_fewestWith_4 : decode cX0_fewestWith 4 = .ok (.iload_n 2, 1) := by decide +kernel
theorem dX0_fewestWith_5 : decode cX0_fewestWith 5 = .ok (.iaload, 1) := by decide +kernel
theorem dX0_fewestWith_6 : decode cX0_fewestWith 6 = .ok (.iload_n 1, 1) := by decide +kernel
theorem dX0_fewestWith_7 : decode cX0_fewestWith 7 = .ok (.iand, 1) := by decide +kernel
theorem dX0_fewestWith_8 : decode cX0_fewestWith 8 = .ok (.invokestatic 60, 3) := by decide +kernel
theorem dX0_fewestWith_11 : decode cX0_fewestWith 11 = .ok (.aload_n 0, 1) := by decide +kernel
theorem dX0_fewestWith_12 : decode cX0_fewestWith 12 = .ok (.getfield 18, 3) := by decide +kernel
theorem dX0_fewestWith_15 : decode cX0_fewestWith 15 = .ok (.iload_n 1, 1) := by decide +kernel
theorem dX0_fewestWith_16 : decode cX0_fewestWith 16 = .ok (.iconst 1, 1) := by decide +kernel
theorem dX0_fewestWith_17 : decode cX0_fewestWith 17 = .ok (.iload_n 2, 1) := by decide +kernel
theorem dX0_fewestWith_18 : decode cX0_fewestWith 18 = .ok (.ishl, 1) := by decide +kernel
theorem dX0_fewestWith_19 : decode cX0_fewestWith 19 = .ok (.ior, 1) := by decide +kernel
theorem dX0_fewestWith_20 : decode cX0_fewestWith 20 = .ok (.iaload, 1) := by decide +kernel
theorem dX0_fewestWith_21 : decode cX0_fewestWith 21 = .ok (.iadd, 1) := by decide +kernel
theorem dX0_fewestWith_22 : decode cX0_fewestWith 22 = .ok (.ireturn, 1) := by decide +kernel
theorem dX0_setOrder_0 : decode cX0_setOrder 0 = .ok (.iconst 0, 1) := by decide +kernel
theorem dX0_setOrder_1 : decode cX0_setOrder 1 = .ok (.istore_n 1, 1) := by decide +kernel
theorem dX0_setOrder_2 : decode cX0_setOrder 2 = .ok (.iconst 0, 1) := by decide +kernel
theorem dX0_setOrder_3 : decode cX0_setOrder 3 = .ok (.istore_n 2, 1) := by decide +kernel
theorem dX0_setOrder_4 : decode cX0_setOrder 4 = .ok (.iload_n 2, 1) := by decide +kernel
theorem dX0_setOrder_5 : decode cX0_setOrder 5 = .ok (.aload_n 0, 1) := by decide +kernel
theorem dX0_setOrder_6 : decode cX0_setOrder 6 = .ok (.getfield 21, 3) := by decide +kernel
theorem dX0_setOrder_9 : decode cX0_setOrder 9 = .ok (.if_icmp .ge 28, 3) := by decide +kernel
theorem dX0_setOrder_12 : decode cX0_setOrder 12 = .ok (.aload_n 0, 1) := by decide +kernel
theorem dX0_setOrder_13 : decode cX0_setOrder 13 = .ok (.iload_n 1, 1) := by decide +kernel
theorem dX0_setOrder_14 : decode cX0_setOrder 14 = .ok (.invokevirtual 66, 3) := by decide +kernel
theorem dX0_setOrder_17 : decode cX0_setOrder 17 = .ok (.istore_n 3, 1) := by decide +kernel
theorem dX0_setOrder_18 : decode cX0_setOrder 18 = .ok (.aload_n 0, 1) := by decide +kernel
theorem dX0_setOrder_19 : decode cX0_setOrder 19 = .ok (.getfield 9, 3) := by decide +kernel
theorem dX0_setOrder_22 : decode cX0_setOrder 22 = .ok (.iload_n 2, 1) := by decide +kernel
theorem dX0_setOrder_23 : decode cX0_setOrder 23 = .ok (.iload_n 3, 1) := by decide +kernel
theorem dX0_setOrder_24 : decode cX0_setOrder 24 = .ok (.iastore, 1) := by decide +kernel
theorem dX0_setOrder_25 : decode cX0_setOrder 25 = .ok (.iload_n 1, 1) := by decide +kernel
theorem dX0_setOrder_26 : decode cX0_setOrder 26 = .ok (.iconst 1, 1) := by decide +kernel
theorem dX0_setOrder_27 : decode cX0_setOrder 27 = .ok (.iload_n 3, 1) := by decide +kernel
theorem dX0_setOrder_28 : decode cX0_setOrder 28 = .ok (.ishl, 1) := by decide +kernel
theorem dX0_setOrder_29 : decode cX0_setOrder 29 = .ok (.ior, 1) := by decide +kernel
theorem dX0_setOrder_30 : decode cX0_setOrder 30 = .ok (.istore_n 1, 1) := by decide +kernel
theorem dX0_setOrder_31 : decode cX0_setOrder 31 = .ok (.iinc 2 1, 3) := by decide +kernel
theorem dX0_setOrder_34 : decode cX0_setOrder 34 = .ok (.goto (-30), 3) := by decide +kernel
theorem dX0_setOrder_37 : decode cX0_setOrder 37 = .ok (.return_, 1) := by decide +kernel
theorem dX0_firstBehind_0 : decode cX0_firstBehind 0 = .ok (.iconst 0, 1) := by decide +kernel
theorem dX0_firstBehind_1 : decode cX0_firstBehind 1 = .ok (.istore_n 2, 1) := by decide +kernel
theorem dX0_firstBehind_2 : decode cX0_firstBehind 2 = .ok (.iload_n 2, 1) := by decide +kernel
theorem dX0_firstBehind_3 : decode cX0_firstBehind 3 = .ok (.aload_n 0, 1) := by decide +kernel
theorem dX0_firstBehind_4 : decode cX0_firstBehind 4 = .ok (.getfield 21, 3) := by decide +kernel
theorem dX0_firstBehind_7 : decode cX0_firstBehind 7 = .ok (.iconst 1, 1) := by decide +kernel
theorem dX0_firstBehind_8 : decode cX0_firstBehind 8 = .ok (.isub, 1) := by decide +kernel
theorem dX0_firstBehind_9 : decode cX0_firstBehind 9 = .ok (.if_icmp .ge 32, 3) := by decide +kernel
theorem dX0_firstBehind_12 : decode cX0_firstBehind 12 = .ok (.iload_n 1, 1) := by decide +kernel
theorem dX0_firstBehind_13 : decode cX0_firstBehind 13 = .ok (.iload_n 2, 1) := by decide +kernel
theorem dX0_firstBehind_14 : decode cX0_firstBehind 14 = .ok (.ishr, 1) := by decide +kernel
theorem dX0_firstBehind_15 : decode cX0_firstBehind 15 = .ok (.iconst 1, 1) := by decide +kernel
theorem dX0_firstBehind_16 : decode cX0_firstBehind 16 = .ok (.iand, 1) := by decide +kernel
theorem dX0_firstBehind_17 : decode cX0_firstBehind 17 = .ok (.ifCond .ne 18, 3) := by decide +kernel
theorem dX0_firstBehind_20 : decode cX0_firstBehind 20 = .ok (.aload_n 0, 1) := by decide +kernel
theorem dX0_firstBehind_21 : decode cX0_firstBehind 21 = .ok (.iload_n 1, 1) := by decide +kernel
theorem dX0_firstBehind_22 : decode cX0_firstBehind 22 = .ok (.iload_n 2, 1) := by decide +kernel
theorem dX0_firstBehind_23 : decode cX0_firstBehind 23 = .ok (.invokevirtual 51, 3) := by decide +kernel
theorem dX0_firstBehind_26 : decode cX0_firstBehind 26 = .ok (.aload_n 0, 1) := by decide +kernel
theorem dX0_firstBehind_27 : decode cX0_firstBehind 27 = .ok (.getfield 18, 3) := by decide +kernel
theorem dX0_firstBehind_30 : decode cX0_firstBehind 30 = .ok (.iload_n 1, 1) := by decide +kernel
theorem dX0_firstBehind_31 : decode cX0_firstBehind 31 = .ok (.iaload, 1) := by decide +kernel
theorem dX0_firstBehind_32 : decode cX0_firstBehind 32 = .ok (.if_icmp .eq 9, 3) := by decide +kernel
theorem dX0_firstBehind_35 : decode cX0_firstBehind 35 = .ok (.iinc 2 1, 3) := by decide +kernel
theorem dX0_firstBehind_38 : decode cX0_firstBehind 38 = .ok (.goto (-36), 3) := by decide +kernel
theorem dX0_firstBehind_41 : decode cX0_firstBehind 41 = .ok (.iload_n 2, 1) := by decide +kernel
theorem dX0_firstBehind_42 : decode cX0_firstBehind 42 = .ok (.ireturn, 1) := by decide +kernel
theorem dX1_init_0 : decode cX1_init 0 = .ok (.aload_n 0, 1) := by decide +kernel
theorem dX1_init_1 : decode cX1_init 1 = .ok (.invokespecial 3, 3) := by decide +kernel
theorem dX1_init_4 : decode cX1_init 4 = .ok (.aload_n 0, 1) := by decide +kernel
theorem dX1_init_5 : decode cX1_init 5 = .ok (.bipush 6, 2) := by decide +kernel
theorem dX1_init_7 : decode cX1_init 7 = .ok (.newarray .int, 2) := by decide +kernel
theorem dX1_init_9 : decode cX1_init 9 = .ok (.putfield 9, 3) := by decide +kernel
theorem dX1_init_12 : decode cX1_init 12 = .ok (.aload_n 0, 1) := by decide +kernel
theorem dX1_init_13 : decode cX1_init 13 = .ok (.bipush 6, 2) := by decide +kernel
theorem dX1_init_15 : decode cX1_init 15 = .ok (.newarray .int, 2) := by decide +kernel
theorem dX1_init_17 : decode cX1_init 17 = .ok (.putfield 15, 3) := by decide +kernel
theorem dX1_init_20 : decode cX1_init 20 = .ok (.return_, 1) := by decide +kernel
theorem dX1_clear_0 : decode cX1_clear 0 = .ok (.aload_n 0, 1) := by decide +kernel
theorem dX1_clear_1 : decode cX1_clear 1 = .ok (.iconst 0, 1) := by decide +kernel
theorem dX1_clear_2 : decode cX1_clear 2 = .ok (.putfield 18, 3) := by decide +kernel
theorem dX1_clear_5 : decode cX1_clear 5 = .ok (.aload_n 0, 1) := by decide +kernel
theorem dX1_clear_6 : decode cX1_clear 6 = .ok (.getfield 15, 3) := by decide +kernel
theorem dX1_clear_9 : decode cX1_clear 9 = .ok (.iconst (-1), 1) := by decide +kernel
theorem dX1_clear_10 : decode cX1_clear 10 = .ok (.invokestatic 22, 3) := by decide +kernel
theorem dX1_clear_13 : decode cX1_clear 13 = .ok (.return_, 1) := by decide +kernel
theorem dX1_give_0 : decode cX1_give 0 = .ok (.iconst 0, 1) := by decide +kernel
theorem dX1_give_1 : decode cX1_give 1 = .ok (.istore 4, 2) := by decide +kernel
theorem dX1_give_3 : decode cX1_give 3 = .ok (.iload 4, 2) := by decide +kernel
theorem dX1_give_5 : decode cX1_give 5 = .ok (.iconst 5, 1) := by decide +kernel
theorem dX1_give_6 : decode cX1_give 6 = .ok (.if_icmp .ge 20, 3) := by decide +kernel
theorem dX1_give_9 : decode cX1_give 9 = .ok (.aload_n 0, 1) := by decide +kernel
theorem dX1_give_10 : decode cX1_give 10 = .ok (.getfield 15, 3) := by decide +kernel
theorem dX1_give_13 : decode cX1_give 13 = .ok (.iload 4, 2) := by decide +kernel
theorem dX1_give_15 : decode cX1_give 15 = .ok (.iaload, 1) := by decide +kernel
theorem dX1_give_16 : decode cX1_give 16 = .ok (.iload_n 2, 1) := by decide +kernel
theorem dX1_give_17 : decode cX1_give 17 = .ok (.if_icmp .lt 9, 3) := by decide +kernel
theorem dX1_give_20 : decode cX1_give 20 = .ok (.iinc 4 1, 3) := by decide +kernel
theorem dX1_give_23 : decode cX1_give 23 = .ok (.goto (-20), 3) := by decide +kernel
theorem dX1_give_26 : decode cX1_give 26 = .ok (.aload_n 0, 1) := by decide +kernel
theorem dX1_give_27 : decode cX1_give 27 = .ok (.getfield 9, 3) := by decide +kernel
theorem dX1_give_30 : decode cX1_give 30 = .ok (.iload_n 1, 1) := by decide +kernel
theorem dX1_give_31 : decode cX1_give 31 = .ok (.iload 4, 2) := by decide +kernel
theorem dX1_give_33 : decode cX1_give 33 = .ok (.iastore, 1) := by decide +kernel
theorem dX1_give_34 : decode cX1_give 34 = .ok (.aload_n 0, 1) := by decide +kernel
theorem dX1_give_35 : decode cX1_give 35 = .ok (.getfield 15, 3) := by decide +kernel
theorem dX1_give_38 : decode cX1_give 38 = .ok (.iload 4, 2) := by decide +kernel
theorem dX1_give_40 : decode cX1_give 40 = .ok (.iload_n 3, 1) := by decide +kernel
theorem dX1_give_41 : decode cX1_give 41 = .ok (.iastore, 1) := by decide +kernel
theorem dX1_give_42 : decode cX1_give 42 = .ok (.aload_n 0, 1) := by decide +kernel
theorem dX1_give_43 : decode cX1_give 43 = .ok (.aload_n 0, 1) := by decide +kernel
theorem dX1_give_44 : decode cX1_give 44 = .ok (.getfield 18, 3) := by decide +kernel
theorem dX1_give_47 : decode cX1_give 47 = .ok (.iload 4, 2) := by decide +kernel
theorem dX1_give_49 : decode cX1_give 49 = .ok (.iconst 1, 1) := by decide +kernel
theorem dX1_give_50 : decode cX1_give 50 = .ok (.iadd, 1) := by decide +kernel
theorem dX1_give_51 : decode cX1_give 51 = .ok (.invokestatic 28, 3) := by decide +kernel
theorem dX1_give_54 : decode cX1_give 54 = .ok (.putfield 18, 3) := by decide +kernel
theorem dX1_give_57 : decode cX1_give 57 = .ok (.return_, 1) := by decide +kernel
theorem dX2_init_0 : decode cX2_init 0 = .ok (.aload_n 0, 1) := by decide +kernel
theorem dX2_init_1 : decode cX2_init 1 = .ok (.invokespecial 5, 3) := by decide +kernel
theorem dX2_init_4 : decode cX2_init 4 = .ok (.aload_n 0, 1) := by decide +kernel
theorem dX2_init_5 : decode cX2_init 5 = .ok (.bipush 42, 2) := by decide +kernel
theorem dX2_init_7 : decode cX2_init 7 = .ok (.newarray .int, 2) := by decide +kernel
theorem dX2_init_9 : decode cX2_init 9 = .ok (.putfield 11, 3) := by decide +kernel
theorem dX2_init_12 : decode cX2_init 12 = .ok (.aload_n 0, 1) := by decide +kernel
theorem dX2_init_13 : decode cX2_init 13 = .ok (.bipush 48, 2) := by decide +kernel
theorem dX2_init_15 : decode cX2_init 15 = .ok (.newarray .int, 2) := by decide +kernel
theorem dX2_init_17 : decode cX2_init 17 = .ok (.putfield 15, 3) := by decide +kernel
theorem dX2_init_20 : decode cX2_init 20 = .ok (.aload_n 0, 1) := by decide +kernel
theorem dX2_init_21 : decode cX2_init 21 = .ok (.bipush 48, 2) := by decide +kernel
theorem dX2_init_23 : decode cX2_init 23 = .ok (.newarray .int, 2) := by decide +kernel
theorem dX2_init_25 : decode cX2_init 25 = .ok (.putfield 18, 3) := by decide +kernel
theorem dX2_init_28 : decode cX2_init 28 = .ok (.aload_n 0, 1) := by decide +kernel
theorem dX2_init_29 : decode cX2_init 29 = .ok (.sipush 960, 3) := by decide +kernel
theorem dX2_init_32 : decode cX2_init 32 = .ok (.newarray .int, 2) := by decide +kernel
theorem dX2_init_34 : decode cX2_init 34 = .ok (.putfield 21, 3) := by decide +kernel
theorem dX2_init_37 : decode cX2_init 37 = .ok (.aload_n 0, 1) := by decide +kernel
theorem dX2_init_38 : decode cX2_init 38 = .ok (.bipush 8, 2) := by decide +kernel
theorem dX2_init_40 : decode cX2_init 40 = .ok (.newarray .int, 2) := by decide +kernel
theorem dX2_init_42 : decode cX2_init 42 = .ok (.putfield 24, 3) := by decide +kernel
theorem dX2_init_45 : decode cX2_init 45 = .ok (.return_, 1) := by decide +kernel
theorem dX2_search_0 : decode cX2_search 0 = .ok (.aload_n 0, 1) := by decide +kernel
theorem dX2_search_1 : decode cX2_search 1 = .ok (.aload_n 1, 1) := by decide +kernel
theorem dX2_search_2 : decode cX2_search 2 = .ok (.iload_n 2, 1) := by decide +kernel
theorem dX2_search_3 : decode cX2_search 3 = .ok (.invokevirtual 27, 3) := by decide +kernel
theorem dX2_search_6 : decode cX2_search 6 = .ok (.iconst 0, 1) := by decide +kernel
theorem dX2_search_7 : decode cX2_search 7 = .ok (.istore_n 3, 1) := by decide +kernel
theorem dX2_search_8 : decode cX2_search 8 = .ok (.iconst 0, 1) := by decide +kernel
theorem dX2_search_9 : decode cX2_search 9 = .ok (.istore 4, 2) := by decide +kernel
theorem dX2_search_11 : decode cX2_search 11 = .ok (.iload 4, 2) := by decide +kernel
theorem dX2_search_13 : decode cX2_search 13 = .ok (.iload_n 2, 1) := by decide +kernel
theorem dX2_search_14 : decode cX2_search 14 = .ok (.if_icmp .ge 19, 3) := by decide +kernel
theorem dX2_search_17 : decode cX2_search 17 = .ok (.iload_n 3, 1) := by decide +kernel
theorem dX2_search_18 : decode cX2_search 18 = .ok (.aload_n 1, 1) := by decide +kernel
theorem dX2_search_19 : decode cX2_search 19 = .ok (.iload 4, 2) := by decide +kernel
theorem dX2_search_21 : decode cX2_search 21 = .ok (.aaload, 1) := by decide +kernel
theorem dX2_search_22 : decode cX2_search 22 = .ok (.getfield 31, 3) := by decide +kernel
theorem dX2_search_25 : decode cX2_search 25 = .ok (.iadd, 1) := by decide +kernel
theorem dX2_search_26 : decode cX2_search 26 = .ok (.istore_n 3, 1) := by decide +kernel
theorem dX2_search_27 : decode cX2_search 27 = .ok (.iinc 4 1, 3) := by decide +kernel
theorem dX2_search_30 : decode cX2_search 30 = .ok (.goto (-19), 3) := by decide +kernel
theorem dX2_search_33 : decode cX2_search 33 = .ok (.iconst 0, 1) := by decide +kernel
theorem dX2_search_34 : decode cX2_search 34 = .ok (.istore 4, 2) := by decide +kernel
theorem dX2_search_36 : decode cX2_search 36 = .ok (.aload_n 0, 1) := by decide +kernel
theorem dX2_search_37 : decode cX2_search 37 = .ok (.iconst 0, 1) := by decide +kernel
theorem dX2_search_38 : decode cX2_search 38 = .ok (.invokevirtual 37, 3) := by decide +kernel
theorem dX2_search_41 : decode cX2_search 41 = .ok (.istore 5, 2) := by decide +kernel
theorem dX2_search_43 : decode cX2_search 43 = .ok (.iload 5, 2) := by decide +kernel
theorem dX2_search_45 : decode cX2_search 45 = .ok (.iload_n 3, 1) := by decide +kernel
theorem dX2_search_46 : decode cX2_search 46 = .ok (.if_icmp .gt 29, 3) := by decide +kernel
theorem dX2_search_49 : decode cX2_search 49 = .ok (.iload 4, 2) := by decide +kernel
theorem dX2_search_51 : decode cX2_search 51 = .ok (.ifCond .ne 24, 3) := by decide +kernel
theorem dX2_search_54 : decode cX2_search 54 = .ok (.aload_n 0, 1) := by decide +kernel
theorem dX2_search_55 : decode cX2_search 55 = .ok (.iload 5, 2) := by decide +kernel
theorem dX2_search_57 : decode cX2_search 57 = .ok (.putfield 41, 3) := by decide +kernel
theorem dX2_search_60 : decode cX2_search 60 = .ok (.aload_n 0, 1) := by decide +kernel
theorem dX2_search_61 : decode cX2_search 61 = .ok (.iconst 0, 1) := by decide +kernel
theorem dX2_search_62 : decode cX2_search 62 = .ok (.iload 5, 2) := by decide +kernel
theorem dX2_search_64 : decode cX2_search 64 = .ok (.invokestatic 44, 3) := by decide +kernel
theorem dX2_search_67 : decode cX2_search 67 = .ok (.istore 4, 2) := by decide +kernel
theorem dX2_search_69 : decode cX2_search 69 = .ok (.iinc 5 1, 3) := by decide +kernel
theorem dX2_search_72 : decode cX2_search 72 = .ok (.goto (-29), 3) := by decide +kernel
theorem dX2_search_75 : decode cX2_search 75 = .ok (.return_, 1) := by decide +kernel
theorem dX2_reach_0 : decode cX2_reach 0 = .ok (.iload_n 1, 1) := by decide +kernel
theorem dX2_reach_1 : decode cX2_reach 1 = .ok (.aload_n 0, 1) := by decide +kernel
theorem dX2_reach_2 : decode cX2_reach 2 = .ok (.getfield 48, 3) := by decide +kernel
theorem dX2_reach_5 : decode cX2_reach 5 = .ok (.if_icmp .ne 5, 3) := by decide +kernel
theorem dX2_reach_8 : decode cX2_reach 8 = .ok (.iconst 1, 1) := by decide +kernel
theorem dX2_reach_9 : decode cX2_reach 9 = .ok (.ireturn, 1) := by decide +kernel
theorem dX2_reach_10 : decode cX2_reach 10 = .ok (.iload_n 2, 1) := by decide +kernel
theorem dX2_reach_11 : decode cX2_reach 11 = .ok (.ifCond .le 12, 3) := by decide +kernel
theorem dX2_reach_14 : decode cX2_reach 14 = .ok (.aload_n 0, 1) := by decide +kernel
theorem dX2_reach_15 : decode cX2_reach 15 = .ok (.iload_n 1, 1) := by decide +kernel
theorem dX2_reach_16 : decode cX2_reach 16 = .ok (.invokevirtual 37, 3) := by decide +kernel
theorem dX2_reach_19 : decode cX2_reach 19 = .ok (.iload_n 2, 1) := by decide +kernel
theorem dX2_reach_20 : decode cX2_reach 20 = .ok (.if_icmp .le 5, 3) := by decide +kernel
theorem dX2_reach_23 : decode cX2_reach 23 = .ok (.iconst 0, 1) := by decide +kernel
theorem dX2_reach_24 : decode cX2_reach 24 = .ok (.ireturn, 1) := by decide +kernel
theorem dX2_reach_25 : decode cX2_reach 25 = .ok (.aload_n 0, 1) := by decide +kernel
theorem dX2_reach_26 : decode cX2_reach 26 = .ok (.iload_n 1, 1) := by decide +kernel
theorem dX2_reach_27 : decode cX2_reach 27 = .ok (.invokevirtual 51, 3) := by decide +kernel
theorem dX2_reach_30 : decode cX2_reach 30 = .ok (.istore_n 3, 1) := by decide +kernel
theorem dX2_reach_31 : decode cX2_reach 31 = .ok (.iconst 0, 1) := by decide +kernel
theorem dX2_reach_32 : decode cX2_reach 32 = .ok (.istore 4, 2) := by decide +kernel
theorem dX2_reach_34 : decode cX2_reach 34 = .ok (.iload 4, 2) := by decide +kernel
theorem dX2_reach_36 : decode cX2_reach 36 = .ok (.bipush 12, 2) := by decide +kernel
theorem dX2_reach_38 : decode cX2_reach 38 = .ok (.if_icmp .ge 50, 3) := by decide +kernel
theorem dX2_reach_41 : decode cX2_reach 41 = .ok (.iload_n 3, 1) := by decide +kernel
theorem dX2_reach_42 : decode cX2_reach 42 = .ok (.iload 4, 2) := by decide +kernel
theorem dX2_reach_44 : decode cX2_reach 44 = .ok (.ishr, 1) := by decide +kernel
theorem dX2_reach_45 : decode cX2_reach 45 = .ok (.iconst 1, 1) := by decide +kernel
theorem dX2_reach_46 : decode cX2_reach 46 = .ok (.iand, 1) := by decide +kernel
theorem dX2_reach_47 : decode cX2_reach 47 = .ok (.ifCond .eq 35, 3) := by decide +kernel
theorem dX2_reach_50 : decode cX2_reach 50 = .ok (.aload_n 0, 1) := by decide +kernel
theorem dX2_reach_51 : decode cX2_reach 51 = .ok (.aload_n 0, 1) := by decide +kernel
theorem dX2_reach_52 : decode cX2_reach 52 = .ok (.iload_n 1, 1) := by decide +kernel
theorem dX2_reach_53 : decode cX2_reach 53 = .ok (.iload 4, 2) := by decide +kernel
theorem dX2_reach_55 : decode cX2_reach 55 = .ok (.invokevirtual 54, 3) := by decide +kernel
theorem dX2_reach_58 : decode cX2_reach 58 = .ok (.iload_n 2, 1) := by decide +kernel
theorem dX2_reach_59 : decode cX2_reach 59 = .ok (.iconst 1, 1) := by decide +kernel
theorem dX2_reach_60 : decode cX2_reach 60 = .ok (.isub, 1) := by decide +kernel
theorem dX2_reach_61 : decode cX2_reach 61 = .ok (.invokestatic 44, 3) := by decide +kernel
theorem dX2_reach_64 : decode cX2_reach 64 = .ok (.ifCond .eq 18, 3) := by decide +kernel
theorem dX2_reach_67 : decode cX2_reach 67 = .ok (.aload_n 0, 1) := by decide +kernel
theorem dX2_reach_68 : decode cX2_reach 68 = .ok (.getfield 11, 3) := by decide +kernel
theorem dX2_reach_71 : decode cX2_reach 71 = .ok (.aload_n 0, 1) := by decide +kernel
theorem dX2_reach_72 : decode cX2_reach 72 = .ok (.getfield 41, 3) := by decide +kernel
theorem dX2_reach_75 : decode cX2_reach 75 = .ok (.iload_n 2, 1) := by decide +kernel
theorem dX2_reach_76 : decode cX2_reach 76 = .ok (.isub, 1) := by decide +kernel
theorem dX2_reach_77 : decode cX2_reach 77 = .ok (.iload 4, 2) := by decide +kernel
theorem dX2_reach_79 : decode cX2_reach 79 = .ok (.iastore, 1) := by decide +kernel
theorem dX2_reach_80 : decode cX2_reach 80 = .ok (.iconst 1, 1) := by decide +kernel
theorem dX2_reach_81 : decode cX2_reach 81 = .ok (.ireturn, 1) := by decide +kernel
theorem dX2_reach_82 : decode cX2_reach 82 = .ok (.iinc 4 1, 3) := by decide +kernel
theorem dX2_reach_85 : decode cX2_reach 85 = .ok (.goto (-51), 3) := by decide +kernel
theorem dX2_reach_88 : decode cX2_reach 88 = .ok (.aload_n 0, 1) := by decide +kernel
theorem dX2_reach_89 : decode cX2_reach 89 = .ok (.iload_n 1, 1) := by decide +kernel
theorem dX2_reach_90 : decode cX2_reach 90 = .ok (.iload_n 2, 1) := by decide +kernel
theorem dX2_reach_91 : decode cX2_reach 91 = .ok (.iconst 1, 1) := by decide +kernel
theorem dX2_reach_92 : decode cX2_reach 92 = .ok (.iadd, 1) := by decide +kernel
theorem dX2_reach_93 : decode cX2_reach 93 = .ok (.invokevirtual 58, 3) := by decide +kernel
theorem dX2_reach_96 : decode cX2_reach 96 = .ok (.iconst 0, 1) := by decide +kernel
theorem dX2_reach_97 : decode cX2_reach 97 = .ok (.ireturn, 1) := by decide +kernel
theorem dX2_prepare_0 : decode cX2_prepare 0 = .ok (.aload_n 0, 1) := by decide +kernel
theorem dX2_prepare_1 : decode cX2_prepare 1 = .ok (.iload_n 2, 1) := by decide +kernel
theorem dX2_prepare_2 : decode cX2_prepare 2 = .ok (.putfield 62, 3) := by decide +kernel
theorem dX2_prepare_5 : decode cX2_prepare 5 = .ok (.aload_n 0, 1) := by decide +kernel
theorem dX2_prepare_6 : decode cX2_prepare 6 = .ok (.iconst 0, 1) := by decide +kernel
theorem dX2_prepare_7 : decode cX2_prepare 7 = .ok (.putfield 48, 3) := by decide +kernel
theorem dX2_prepare_10 : decode cX2_prepare 10 = .ok (.iconst 0, 1) := by decide +kernel
theorem dX2_prepare_11 : decode cX2_prepare 11 = .ok (.istore_n 3, 1) := by decide +kernel
theorem dX2_prepare_12 : decode cX2_prepare 12 = .ok (.iload_n 3, 1) := by decide +kernel
theorem dX2_prepare_13 : decode cX2_prepare 13 = .ok (.iload_n 2, 1) := by decide +kernel
theorem dX2_prepare_14 : decode cX2_prepare 14 = .ok (.if_icmp .ge 36, 3) := by decide +kernel
theorem dX2_prepare_17 : decode cX2_prepare 17 = .ok (.aload_n 0, 1) := by decide +kernel
theorem dX2_prepare_18 : decode cX2_prepare 18 = .ok (.aload_n 1, 1) := by decide +kernel
theorem dX2_prepare_19 : decode cX2_prepare 19 = .ok (.iload_n 3, 1) := by decide +kernel
theorem dX2_prepare_20 : decode cX2_prepare 20 = .ok (.aaload, 1) := by decide +kernel
theorem dX2_prepare_21 : decode cX2_prepare 21 = .ok (.iload_n 3, 1) := by decide +kernel
theorem dX2_prepare_22 : decode cX2_prepare 22 = .ok (.invokevirtual 65, 3) := by decide +kernel
theorem dX2_prepare_25 : decode cX2_prepare 25 = .ok (.aload_n 0, 1) := by decide +kernel
theorem dX2_prepare_26 : decode cX2_prepare 26 = .ok (.dup, 1) := by decide +kernel
theorem dX2_prepare_27 : decode cX2_prepare 27 = .ok (.getfield 48, 3) := by decide +kernel
theorem dX2_prepare_30 : decode cX2_prepare 30 = .ok (.aload_n 1, 1) := by decide +kernel
theorem dX2_prepare_31 : decode cX2_prepare 31 = .ok (.iload_n 3, 1) := by decide +kernel
theorem dX2_prepare_32 : decode cX2_prepare 32 = .ok (.aaload, 1) := by decide +kernel
theorem dX2_prepare_33 : decode cX2_prepare 33 = .ok (.getfield 31, 3) := by decide +kernel
theorem dX2_prepare_36 : decode cX2_prepare 36 = .ok (.iconst 3, 1) := by decide +kernel
theorem dX2_prepare_37 : decode cX2_prepare 37 = .ok (.iload_n 3, 1) := by decide +kernel
theorem dX2_prepare_38 : decode cX2_prepare 38 = .ok (.imul, 1) := by decide +kernel
theorem dX2_prepare_39 : decode cX2_prepare 39 = .ok (.ishl, 1) := by decide +kernel
theorem dX2_prepare_40 : decode cX2_prepare 40 = .ok (.ior, 1) := by decide +kernel
theorem dX2_prepare_41 : decode cX2_prepare 41 = .ok (.putfield 48, 3) := by decide +kernel
theorem dX2_prepare_44 : decode cX2_prepare 44 = .ok (.iinc 3 1, 3) := by decide +kernel
theorem dX2_prepare_47 : decode cX2_prepare 47 = .ok (.goto (-35), 3) := by decide +kernel
theorem dX2_prepare_50 : decode cX2_prepare 50 = .ok (.iconst 0, 1) := by decide +kernel
theorem dX2_prepare_51 : decode cX2_prepare 51 = .ok (.istore_n 3, 1) := by decide +kernel
theorem dX2_prepare_52 : decode cX2_prepare 52 = .ok (.iconst 1, 1) := by decide +kernel
theorem dX2_prepare_53 : decode cX2_prepare 53 = .ok (.istore 4, 2) := by decide +kernel
theorem dX2_prepare_55 : decode cX2_prepare 55 = .ok (.iload 4, 2) := by decide +kernel
theorem dX2_prepare_57 : decode cX2_prepare 57 = .ok (.iload_n 2, 1) := by decide +kernel
theorem dX2_prepare_58 : decode cX2_prepare 58 = .ok (.if_icmp .ge 41, 3) := by decide +kernel
theorem dX2_prepare_61 : decode cX2_prepare 61 = .ok (.iconst 0, 1) := by decide +kernel
theorem dX2_prepare_62 : decode cX2_prepare 62 = .ok (.istore 5, 2) := by decide +kernel
theorem dX2_prepare_64 : decode cX2_prepare 64 = .ok (.iload 5, 2) := by decide +kernel
theorem dX2_prepare_66 : decode cX2_prepare 66 = .ok (.iload 4, 2) := by decide +kernel
theorem dX2_prepare_68 : decode cX2_prepare 68 = .ok (.if_icmp .ge 25, 3) := by decide +kernel
theorem dX2_prepare_71 : decode cX2_prepare 71 = .ok (.aload_n 0, 1) := by decide +kernel
theorem dX2_prepare_72 : decode cX2_prepare 72 = .ok (.iload_n 3, 1) := by decide +kernel
theorem dX2_prepare_73 : decode cX2_prepare 73 = .ok (.aload_n 1, 1) := by decide +kernel
theorem dX2_prepare_74 : decode cX2_prepare 74 = .ok (.iload 4, 2) := by decide +kernel
theorem dX2_prepare_76 : decode cX2_prepare 76 = .ok (.aaload, 1) := by decide +kernel
theorem dX2_prepare_77 : decode cX2_prepare 77 = .ok (.aload_n 1, 1) := by decide +kernel
theorem dX2_prepare_78 : decode cX2_prepare 78 = .ok (.iload 5, 2) := by decide +kernel
theorem dX2_prepare_80 : decode cX2_prepare 80 = .ok (.aaload, 1) := by decide +kernel
theorem dX2_prepare_81 : decode cX2_prepare 81 = .ok (.invokevirtual 69, 3) := by decide +kernel
theorem dX2_prepare_84 : decode cX2_prepare 84 = .ok (.iinc 3 1, 3) := by decide +kernel
theorem dX2_prepare_87 : decode cX2_prepare 87 = .ok (.iinc 5 1, 3) := by decide +kernel
theorem dX2_prepare_90 : decode cX2_prepare 90 = .ok (.goto (-26), 3) := by decide +kernel
theorem dX2_prepare_93 : decode cX2_prepare 93 = .ok (.iinc 4 1, 3) := by decide +kernel
theorem dX2_prepare_96 : decode cX2_prepare 96 = .ok (.goto (-41), 3) := by decide +kernel
theorem dX2_prepare_99 : decode cX2_prepare 99 = .ok (.aload_n 0, 1) := by decide +kernel
theorem dX2_prepare_100 : decode cX2_prepare 100 = .ok (.iconst 1, 1) := by decide +kernel
theorem dX2_prepare_101 : decode cX2_prepare 101 = .ok (.iconst 3, 1) := by decide +kernel
theorem dX2_prepare_102 : decode cX2_prepare 102 = .ok (.iload_n 2, 1) := by decide +kernel
theorem dX2_prepare_103 : decode cX2_prepare 103 = .ok (.imul, 1) := by decide +kernel
theorem dX2_prepare_104 : decode cX2_prepare 104 = .ok (.ishl, 1) := by decide +kernel
theorem dX2_prepare_105 : decode cX2_prepare 105 = .ok (.invokevirtual 73, 3) := by decide +kernel
theorem dX2_prepare_108 : decode cX2_prepare 108 = .ok (.return_, 1) := by decide +kernel
theorem dX2_readStops_0 : decode cX2_readStops 0 = .ok (.iload_n 2, 1) := by decide +kernel
theorem dX2_readStops_1 : decode cX2_readStops 1 = .ok (.bipush 8, 2) := by decide +kernel
theorem dX2_readStops_3 : decode cX2_readStops 3 = .ok (.imul, 1) := by decide +kernel
theorem dX2_readStops_4 : decode cX2_readStops 4 = .ok (.istore_n 3, 1) := by decide +kernel
theorem dX2_readStops_5 : decode cX2_readStops 5 = .ok (.aload_n 0, 1) := by decide +kernel
theorem dX2_readStops_6 : decode cX2_readStops 6 = .ok (.getfield 15, 3) := by decide +kernel
theorem dX2_readStops_9 : decode cX2_readStops 9 = .ok (.iload_n 3, 1) := by decide +kernel
theorem dX2_readStops_10 : decode cX2_readStops 10 = .ok (.aload_n 1, 1) := by decide +kernel
theorem dX2_readStops_11 : decode cX2_readStops 11 = .ok (.getfield 31, 3) := by decide +kernel
theorem dX2_readStops_14 : decode cX2_readStops 14 = .ok (.iadd, 1) := by decide +kernel
theorem dX2_readStops_15 : decode cX2_readStops 15 = .ok (.iconst (-1), 1) := by decide +kernel
theorem dX2_readStops_16 : decode cX2_readStops 16 = .ok (.iastore, 1) := by decide +kernel
theorem dX2_readStops_17 : decode cX2_readStops 17 = .ok (.aload_n 0, 1) := by decide +kernel
theorem dX2_readStops_18 : decode cX2_readStops 18 = .ok (.getfield 18, 3) := by decide +kernel
theorem dX2_readStops_21 : decode cX2_readStops 21 = .ok (.iload_n 3, 1) := by decide +kernel
theorem dX2_readStops_22 : decode cX2_readStops 22 = .ok (.aload_n 1, 1) := by decide +kernel
theorem dX2_readStops_23 : decode cX2_readStops 23 = .ok (.getfield 31, 3) := by decide +kernel
theorem dX2_readStops_26 : decode cX2_readStops 26 = .ok (.iadd, 1) := by decide +kernel
theorem dX2_readStops_27 : decode cX2_readStops 27 = .ok (.iconst 0, 1) := by decide +kernel
theorem dX2_readStops_28 : decode cX2_readStops 28 = .ok (.iastore, 1) := by decide +kernel
theorem dX2_readStops_29 : decode cX2_readStops 29 = .ok (.aload_n 1, 1) := by decide +kernel
theorem dX2_readStops_30 : decode cX2_readStops 30 = .ok (.getfield 31, 3) := by decide +kernel
theorem dX2_readStops_33 : decode cX2_readStops 33 = .ok (.iconst 1, 1) := by decide +kernel
theorem dX2_readStops_34 : decode cX2_readStops 34 = .ok (.isub, 1) := by decide +kernel
theorem dX2_readStops_35 : decode cX2_readStops 35 = .ok (.istore 4, 2) := by decide +kernel
theorem dX2_readStops_37 : decode cX2_readStops 37 = .ok (.iload 4, 2) := by decide +kernel
theorem dX2_readStops_39 : decode cX2_readStops 39 = .ok (.ifCond .lt 55, 3) := by decide +kernel
theorem dX2_readStops_42 : decode cX2_readStops 42 = .ok (.aload_n 0, 1) := by decide +kernel
theorem dX2_readStops_43 : decode cX2_readStops 43 = .ok (.getfield 15, 3) := by decide +kernel
theorem dX2_readStops_46 : decode cX2_readStops 46 = .ok (.iload_n 3, 1) := by decide +kernel
theorem dX2_readStops_47 : decode cX2_readStops 47 = .ok (.iload 4, 2) := by decide +kernel
theorem dX2_readStops_49 : decode cX2_readStops 49 = .ok (.iadd, 1) := by decide +kernel
theorem dX2_readStops_50 : decode cX2_readStops 50 = .ok (.aload_n 1, 1) := by decide +kernel
theorem dX2_readStops_51 : decode cX2_readStops 51 = .ok (.getfield 77, 3) := by decide +kernel
theorem dX2_readStops_54 : decode cX2_readStops 54 = .ok (.iload 4, 2) := by decide +kernel
theorem dX2_readStops_56 : decode cX2_readStops 56 = .ok (.iaload, 1) := by decide +kernel
theorem dX2_readStops_57 : decode cX2_readStops 57 = .ok (.iastore, 1) := by decide +kernel
theorem dX2_readStops_58 : decode cX2_readStops 58 = .ok (.aload_n 0, 1) := by decide +kernel
theorem dX2_readStops_59 : decode cX2_readStops 59 = .ok (.getfield 18, 3) := by decide +kernel
theorem dX2_readStops_62 : decode cX2_readStops 62 = .ok (.iload_n 3, 1) := by decide +kernel
theorem dX2_readStops_63 : decode cX2_readStops 63 = .ok (.iload 4, 2) := by decide +kernel
theorem dX2_readStops_65 : decode cX2_readStops 65 = .ok (.iadd, 1) := by decide +kernel
theorem dX2_readStops_66 : decode cX2_readStops 66 = .ok (.aload_n 0, 1) := by decide +kernel
theorem dX2_readStops_67 : decode cX2_readStops 67 = .ok (.getfield 18, 3) := by decide +kernel
theorem dX2_readStops_70 : decode cX2_readStops 70 = .ok (.iload_n 3, 1) := by decide +kernel
theorem dX2_readStops_71 : decode cX2_readStops 71 = .ok (.iload 4, 2) := by decide +kernel
theorem dX2_readStops_73 : decode cX2_readStops 73 = .ok (.iadd, 1) := by decide +kernel
theorem dX2_readStops_74 : decode cX2_readStops 74 = .ok (.iconst 1, 1) := by decide +kernel
theorem dX2_readStops_75 : decode cX2_readStops 75 = .ok (.iadd, 1) := by decide +kernel
theorem dX2_readStops_76 : decode cX2_readStops 76 = .ok (.iaload, 1) := by decide +kernel
theorem dX2_readStops_77 : decode cX2_readStops 77 = .ok (.iconst 1, 1) := by decide +kernel
theorem dX2_readStops_78 : decode cX2_readStops 78 = .ok (.aload_n 1, 1) := by decide +kernel
theorem dX2_readStops_79 : decode cX2_readStops 79 = .ok (.getfield 77, 3) := by decide +kernel
theorem dX2_readStops_82 : decode cX2_readStops 82 = .ok (.iload 4, 2) := by decide +kernel
theorem dX2_readStops_84 : decode cX2_readStops 84 = .ok (.iaload, 1) := by decide +kernel
theorem dX2_readStops_85 : decode cX2_readStops 85 = .ok (.ishl, 1) := by decide +kernel
theorem dX2_readStops_86 : decode cX2_readStops 86 = .ok (.ior, 1) := by decide +kernel
theorem dX2_readStops_87 : decode cX2_readStops 87 = .ok (.iastore, 1) := by decide +kernel
theorem dX2_readStops_88 : decode cX2_readStops 88 = .ok (.iinc 4 (-1), 3) := by decide +kernel
theorem dX2_readStops_91 : decode cX2_readStops 91 = .ok (.goto (-54), 3) := by decide +kernel
theorem dX2_readStops_94 : decode cX2_readStops 94 = .ok (.return_, 1) := by decide +kernel
theorem dX2_fillPair_0 : decode cX2_fillPair 0 = .ok (.iload_n 1, 1) := by decide +kernel
theorem dX2_fillPair_1 : decode cX2_fillPair 1 = .ok (.bipush 8, 2) := by decide +kernel
theorem dX2_fillPair_3 : decode cX2_fillPair 3 = .ok (.imul, 1) := by decide +kernel
theorem dX2_fillPair_4 : decode cX2_fillPair 4 = .ok (.bipush 8, 2) := by decide +kernel
theorem dX2_fillPair_6 : decode cX2_fillPair 6 = .ok (.imul, 1) := by decide +kernel
theorem dX2_fillPair_7 : decode cX2_fillPair 7 = .ok (.istore 4, 2) := by decide +kernel
theorem dX2_fillPair_9 : decode cX2_fillPair 9 = .ok (.aload_n 2, 1) := by decide +kernel
theorem dX2_fillPair_10 : decode cX2_fillPair 10 = .ok (.getfield 31, 3) := by decide +kernel
theorem dX2_fillPair_13 : decode cX2_fillPair 13 = .ok (.istore 5, 2) := by decide +kernel
theorem dX2_fillPair_15 : decode cX2_fillPair 15 = .ok (.iload 5, 2) := by decide +kernel
theorem dX2_fillPair_17 : decode cX2_fillPair 17 = .ok (.ifCond .lt 154, 3) := by decide +kernel
theorem dX2_fillPair_20 : decode cX2_fillPair 20 = .ok (.aload_n 3, 1) := by decide +kernel
theorem dX2_fillPair_21 : decode cX2_fillPair 21 = .ok (.getfield 31, 3) := by decide +kernel
theorem dX2_fillPair_24 : decode cX2_fillPair 24 = .ok (.istore 6, 2) := by decide +kernel
theorem dX2_fillPair_26 : decode cX2_fillPair 26 = .ok (.iload 6, 2) := by decide +kernel
theorem dX2_fillPair_28 : decode cX2_fillPair 28 = .ok (.ifCond .lt 137, 3) := by decide +kernel
theorem dX2_fillPair_31 : decode cX2_fillPair 31 = .ok (.iload 4, 2) := by decide +kernel
theorem dX2_fillPair_33 : decode cX2_fillPair 33 = .ok (.iload 5, 2) := by decide +kernel
theorem dX2_fillPair_35 : decode cX2_fillPair 35 = .ok (.bipush 8, 2) := by decide +kernel
theorem dX2_fillPair_37 : decode cX2_fillPair 37 = .ok (.imul, 1) := by decide +kernel
theorem dX2_fillPair_38 : decode cX2_fillPair 38 = .ok (.iadd, 1) := by decide +kernel
theorem dX2_fillPair_39 : decode cX2_fillPair 39 = .ok (.iload 6, 2) := by decide +kernel
theorem dX2_fillPair_41 : decode cX2_fillPair 41 = .ok (.iadd, 1) := by decide +kernel
theorem dX2_fillPair_42 : decode cX2_fillPair 42 = .ok (.istore 7, 2) := by decide +kernel
theorem dX2_fillPair_44 : decode cX2_fillPair 44 = .ok (.iload 5, 2) := by decide +kernel
theorem dX2_fillPair_46 : decode cX2_fillPair 46 = .ok (.aload_n 2, 1) := by decide +kernel
theorem dX2_fillPair_47 : decode cX2_fillPair 47 = .ok (.getfield 31, 3) := by decide +kernel
theorem dX2_fillPair_50 : decode cX2_fillPair 50 = .ok (.if_icmp .eq 12, 3) := by decide +kernel
theorem dX2_fillPair_53 : decode cX2_fillPair 53 = .ok (.iload 6, 2) := by decide +kernel
theorem dX2_fillPair_55 : decode cX2_fillPair 55 = .ok (.aload_n 3, 1) := by decide +kernel
theorem dX2_fillPair_56 : decode cX2_fillPair 56 = .ok (.getfield 31, 3) := by decide +kernel
theorem dX2_fillPair_59 : decode cX2_fillPair 59 = .ok (.if_icmp .ne 28, 3) := by decide +kernel
theorem dX2_fillPair_62 : decode cX2_fillPair 62 = .ok (.aload_n 0, 1) := by decide +kernel
theorem dX2_fillPair_63 : decode cX2_fillPair 63 = .ok (.getfield 21, 3) := by decide +kernel
theorem dX2_fillPair_66 : decode cX2_fillPair 66 = .ok (.iload 7, 2) := by decide +kernel
theorem dX2_fillPair_68 : decode cX2_fillPair 68 = .ok (.aload_n 2, 1) := by decide +kernel
theorem dX2_fillPair_69 : decode cX2_fillPair 69 = .ok (.getfield 31, 3) := by decide +kernel
theorem dX2_fillPair_72 : decode cX2_fillPair 72 = .ok (.iload 5, 2) := by decide +kernel
theorem dX2_fillPair_74 : decode cX2_fillPair 74 = .ok (.isub, 1) := by decide +kernel
theorem dX2_fillPair_75 : decode cX2_fillPair 75 = .ok (.aload_n 3, 1) := by decide +kernel
theorem dX2_fillPair_76 : decode cX2_fillPair 76 = .ok (.getfield 31, 3) := by decide +kernel
theorem dX2_fillPair_79 : decode cX2_fillPair 79 = .ok (.iadd, 1) := by decide +kernel
theorem dX2_fillPair_80 : decode cX2_fillPair 80 = .ok (.iload 6, 2) := by decide +kernel
theorem dX2_fillPair_82 : decode cX2_fillPair 82 = .ok (.isub, 1) := by decide +kernel
theorem dX2_fillPair_83 : decode cX2_fillPair 83 = .ok (.iastore, 1) := by decide +kernel
theorem dX2_fillPair_84 : decode cX2_fillPair 84 = .ok (.goto 75, 3) := by decide +kernel
theorem dX2_fillPair_87 : decode cX2_fillPair 87 = .ok (.aload_n 2, 1) := by decide +kernel
theorem dX2_fillPair_88 : decode cX2_fillPair 88 = .ok (.getfield 77, 3) := by decide +kernel
theorem dX2_fillPair_91 : decode cX2_fillPair 91 = .ok (.iload 5, 2) := by decide +kernel
theorem dX2_fillPair_93 : decode cX2_fillPair 93 = .ok (.iaload, 1) := by decide +kernel
theorem dX2_fillPair_94 : decode cX2_fillPair 94 = .ok (.aload_n 3, 1) := by decide +kernel
theorem dX2_fillPair_95 : decode cX2_fillPair 95 = .ok (.getfield 77, 3) := by decide +kernel
theorem dX2_fillPair_98 : decode cX2_fillPair 98 = .ok (.iload 6, 2) := by decide +kernel
theorem dX2_fillPair_100 : decode cX2_fillPair 100 = .ok (.iaload, 1) := by decide +kernel
theorem dX2_fillPair_101 : decode cX2_fillPair 101 = .ok (.if_icmp .ne 27, 3) := by decide +kernel
theorem dX2_fillPair_104 : decode cX2_fillPair 104 = .ok (.aload_n 0, 1) := by decide +kernel
theorem dX2_fillPair_105 : decode cX2_fillPair 105 = .ok (.getfield 21, 3) := by decide +kernel
theorem dX2_fillPair_108 : decode cX2_fillPair 108 = .ok (.iload 7, 2) := by decide +kernel
theorem dX2_fillPair_110 : decode cX2_fillPair 110 = .ok (.iconst 1, 1) := by decide +kernel
theorem dX2_fillPair_111 : decode cX2_fillPair 111 = .ok (.aload_n 0, 1) := by decide +kernel
theorem dX2_fillPair_112 : decode cX2_fillPair 112 = .ok (.getfield 21, 3) := by decide +kernel
theorem dX2_fillPair_115 : decode cX2_fillPair 115 = .ok (.iload 7, 2) := by decide +kernel
theorem dX2_fillPair_117 : decode cX2_fillPair 117 = .ok (.bipush 8, 2) := by decide +kernel
theorem dX2_fillPair_119 : decode cX2_fillPair 119 = .ok (.iadd, 1) := by decide +kernel
theorem dX2_fillPair_120 : decode cX2_fillPair 120 = .ok (.iconst 1, 1) := by decide +kernel
theorem dX2_fillPair_121 : decode cX2_fillPair 121 = .ok (.iadd, 1) := by decide +kernel
theorem dX2_fillPair_122 : decode cX2_fillPair 122 = .ok (.iaload, 1) := by decide +kernel
theorem dX2_fillPair_123 : decode cX2_fillPair 123 = .ok (.iadd, 1) := by decide +kernel
theorem dX2_fillPair_124 : decode cX2_fillPair 124 = .ok (.iastore, 1) := by decide +kernel
theorem dX2_fillPair_125 : decode cX2_fillPair 125 = .ok (.goto 34, 3) := by decide +kernel
theorem dX2_fillPair_128 : decode cX2_fillPair 128 = .ok (.aload_n 0, 1) := by decide +kernel
theorem dX2_fillPair_129 : decode cX2_fillPair 129 = .ok (.getfield 21, 3) := by decide +kernel
theorem dX2_fillPair_132 : decode cX2_fillPair 132 = .ok (.iload 7, 2) := by decide +kernel
theorem dX2_fillPair_134 : decode cX2_fillPair 134 = .ok (.iconst 1, 1) := by decide +kernel
theorem dX2_fillPair_135 : decode cX2_fillPair 135 = .ok (.aload_n 0, 1) := by decide +kernel
theorem dX2_fillPair_136 : decode cX2_fillPair 136 = .ok (.getfield 21, 3) := by decide +kernel
theorem dX2_fillPair_139 : decode cX2_fillPair 139 = .ok (.iload 7, 2) := by decide +kernel
theorem dX2_fillPair_141 : decode cX2_fillPair 141 = .ok (.bipush 8, 2) := by decide +kernel
theorem dX2_fillPair_143 : decode cX2_fillPair 143 = .ok (.iadd, 1) := by decide +kernel
theorem dX2_fillPair_144 : decode cX2_fillPair 144 = .ok (.iaload, 1) := by decide +kernel
theorem dX2_fillPair_145 : decode cX2_fillPair 145 = .ok (.aload_n 0, 1) := by decide +kernel
theorem dX2_fillPair_146 : decode cX2_fillPair 146 = .ok (.getfield 21, 3) := by decide +kernel
theorem dX2_fillPair_149 : decode cX2_fillPair 149 = .ok (.iload 7, 2) := by decide +kernel
theorem dX2_fillPair_151 : decode cX2_fillPair 151 = .ok (.iconst 1, 1) := by decide +kernel
theorem dX2_fillPair_152 : decode cX2_fillPair 152 = .ok (.iadd, 1) := by decide +kernel
theorem dX2_fillPair_153 : decode cX2_fillPair 153 = .ok (.iaload, 1) := by decide +kernel
theorem dX2_fillPair_154 : decode cX2_fillPair 154 = .ok (.invokestatic 80, 3) := by decide +kernel
theorem dX2_fillPair_157 : decode cX2_fillPair 157 = .ok (.iadd, 1) := by decide +kernel
theorem dX2_fillPair_158 : decode cX2_fillPair 158 = .ok (.iastore, 1) := by decide +kernel
theorem dX2_fillPair_159 : decode cX2_fillPair 159 = .ok (.iinc 6 (-1), 3) := by decide +kernel
theorem dX2_fillPair_162 : decode cX2_fillPair 162 = .ok (.goto (-136), 3) := by decide +kernel
theorem dX2_fillPair_165 : decode cX2_fillPair 165 = .ok (.iinc 5 (-1), 3) := by decide +kernel
theorem dX2_fillPair_168 : decode cX2_fillPair 168 = .ok (.goto (-153), 3) := by decide +kernel
theorem dX2_fillPair_171 : decode cX2_fillPair 171 = .ok (.return_, 1) := by decide +kernel
theorem dX2_openKnown_0 : decode cX2_openKnown 0 = .ok (.aload_n 0, 1) := by decide +kernel
theorem dX2_openKnown_1 : decode cX2_openKnown 1 = .ok (.getfield 24, 3) := by decide +kernel
theorem dX2_openKnown_4 : decode cX2_openKnown 4 = .ok (.arraylength, 1) := by decide +kernel
theorem dX2_openKnown_5 : decode cX2_openKnown 5 = .ok (.iload_n 1, 1) := by decide +kernel
theorem dX2_openKnown_6 : decode cX2_openKnown 6 = .ok (.if_icmp .ge 10, 3) := by decide +kernel
theorem dX2_openKnown_9 : decode cX2_openKnown 9 = .ok (.aload_n 0, 1) := by decide +kernel
theorem dX2_openKnown_10 : decode cX2_openKnown 10 = .ok (.iload_n 1, 1) := by decide +kernel
theorem dX2_openKnown_11 : decode cX2_openKnown 11 = .ok (.newarray .int, 2) := by decide +kernel
theorem dX2_openKnown_13 : decode cX2_openKnown 13 = .ok (.putfield 24, 3) := by decide +kernel
theorem dX2_openKnown_16 : decode cX2_openKnown 16 = .ok (.aload_n 0, 1) := by decide +kernel
theorem dX2_openKnown_17 : decode cX2_openKnown 17 = .ok (.getfield 85, 3) := by decide +kernel
theorem dX2_openKnown_20 : decode cX2_openKnown 20 = .ok (.ldc 88, 2) := by decide +kernel
theorem dX2_openKnown_22 : decode cX2_openKnown 22 = .ok (.if_icmp .lt 16, 3) := by decide +kernel
theorem dX2_openKnown_25 : decode cX2_openKnown 25 = .ok (.aload_n 0, 1) := by decide +kernel
theorem dX2_openKnown_26 : decode cX2_openKnown 26 = .ok (.getfield 24, 3) := by decide +kernel
theorem dX2_openKnown_29 : decode cX2_openKnown 29 = .ok (.iconst 0, 1) := by decide +kernel
theorem dX2_openKnown_30 : decode cX2_openKnown 30 = .ok (.invokestatic 89, 3) := by decide +kernel
theorem dX2_openKnown_33 : decode cX2_openKnown 33 = .ok (.aload_n 0, 1) := by decide +kernel
theorem dX2_openKnown_34 : decode cX2_openKnown 34 = .ok (.iconst 0, 1) := by decide +kernel
theorem dX2_openKnown_35 : decode cX2_openKnown 35 = .ok (.putfield 85, 3) := by decide +kernel
theorem dX2_openKnown_38 : decode cX2_openKnown 38 = .ok (.aload_n 0, 1) := by decide +kernel
theorem dX2_openKnown_39 : decode cX2_openKnown 39 = .ok (.dup, 1) := by decide +kernel
theorem dX2_openKnown_40 : decode cX2_openKnown 40 = .ok (.getfield 85, 3) := by decide +kernel
theorem dX2_openKnown_43 : decode cX2_openKnown 43 = .ok (.iconst 1, 1) := by decide +kernel
theorem dX2_openKnown_44 : decode cX2_openKnown 44 = .ok (.iadd, 1) := by decide +kernel
theorem dX2_openKnown_45 : decode cX2_openKnown 45 = .ok (.putfield 85, 3) := by decide +kernel
theorem dX2_openKnown_48 : decode cX2_openKnown 48 = .ok (.return_, 1) := by decide +kernel
theorem dX2_needOf_0 : decode cX2_needOf 0 = .ok (.aload_n 0, 1) := by decide +kernel
theorem dX2_needOf_1 : decode cX2_needOf 1 = .ok (.getfield 24, 3) := by decide +kernel
theorem dX2_needOf_4 : decode cX2_needOf 4 = .ok (.iload_n 1, 1) := by decide +kernel
theorem dX2_needOf_5 : decode cX2_needOf 5 = .ok (.iaload, 1) := by decide +kernel
theorem dX2_needOf_6 : decode cX2_needOf 6 = .ok (.bipush 6, 2) := by decide +kernel
theorem dX2_needOf_8 : decode cX2_needOf 8 = .ok (.ishr, 1) := by decide +kernel
theorem dX2_needOf_9 : decode cX2_needOf 9 = .ok (.aload_n 0, 1) := by decide +kernel
theorem dX2_needOf_10 : decode cX2_needOf 10 = .ok (.getfield 85, 3) := by decide +kernel
theorem dX2_needOf_13 : decode cX2_needOf 13 = .ok (.if_icmp .eq 13, 3) := by decide +kernel
theorem dX2_needOf_16 : decode cX2_needOf 16 = .ok (.aload_n 0, 1) := by decide +kernel
theorem dX2_needOf_17 : decode cX2_needOf 17 = .ok (.iload_n 1, 1) := by decide +kernel
theorem dX2_needOf_18 : decode cX2_needOf 18 = .ok (.aload_n 0, 1) := by decide +kernel
theorem dX2_needOf_19 : decode cX2_needOf 19 = .ok (.iload_n 1, 1) := by decide +kernel
theorem dX2_needOf_20 : decode cX2_needOf 20 = .ok (.invokevirtual 95, 3) := by decide +kernel
theorem dX2_needOf_23 : decode cX2_needOf 23 = .ok (.invokevirtual 58, 3) := by decide +kernel
theorem dX2_needOf_26 : decode cX2_needOf 26 = .ok (.aload_n 0, 1) := by decide +kernel
theorem dX2_needOf_27 : decode cX2_needOf 27 = .ok (.getfield 24, 3) := by decide +kernel
theorem dX2_needOf_30 : decode cX2_needOf 30 = .ok (.iload_n 1, 1) := by decide +kernel
theorem dX2_needOf_31 : decode cX2_needOf 31 = .ok (.iaload, 1) := by decide +kernel
theorem dX2_needOf_32 : decode cX2_needOf 32 = .ok (.bipush 63, 2) := by decide +kernel
theorem dX2_needOf_34 : decode cX2_needOf 34 = .ok (.iand, 1) := by decide +kernel
theorem dX2_needOf_35 : decode cX2_needOf 35 = .ok (.ireturn, 1) := by decide +kernel
theorem dX2_keep_0 : decode cX2_keep 0 = .ok (.aload_n 0, 1) := by decide +kernel
theorem dX2_keep_1 : decode cX2_keep 1 = .ok (.getfield 24, 3) := by decide +kernel
theorem dX2_keep_4 : decode cX2_keep 4 = .ok (.iload_n 1, 1) := by decide +kernel
theorem dX2_keep_5 : decode cX2_keep 5 = .ok (.aload_n 0, 1) := by decide +kernel
theorem dX2_keep_6 : decode cX2_keep 6 = .ok (.getfield 85, 3) := by decide +kernel
theorem dX2_keep_9 : decode cX2_keep 9 = .ok (.bipush 6, 2) := by decide +kernel
theorem dX2_keep_11 : decode cX2_keep 11 = .ok (.ishl, 1) := by decide +kernel
theorem dX2_keep_12 : decode cX2_keep 12 = .ok (.iload_n 2, 1) := by decide +kernel
theorem dX2_keep_13 : decode cX2_keep 13 = .ok (.ior, 1) := by decide +kernel
theorem dX2_keep_14 : decode cX2_keep 14 = .ok (.iastore, 1) := by decide +kernel
theorem dX2_keep_15 : decode cX2_keep 15 = .ok (.return_, 1) := by decide +kernel
theorem dX2_placeOf_0 : decode cX2_placeOf 0 = .ok (.iload_n 2, 1) := by decide +kernel
theorem dX2_placeOf_1 : decode cX2_placeOf 1 = .ok (.bipush 8, 2) := by decide +kernel
theorem dX2_placeOf_3 : decode cX2_placeOf 3 = .ok (.imul, 1) := by decide +kernel
theorem dX2_placeOf_4 : decode cX2_placeOf 4 = .ok (.iload_n 1, 1) := by decide +kernel
theorem dX2_placeOf_5 : decode cX2_placeOf 5 = .ok (.iconst 3, 1) := by decide +kernel
theorem dX2_placeOf_6 : decode cX2_placeOf 6 = .ok (.iload_n 2, 1) := by decide +kernel
theorem dX2_placeOf_7 : decode cX2_placeOf 7 = .ok (.imul, 1) := by decide +kernel
theorem dX2_placeOf_8 : decode cX2_placeOf 8 = .ok (.ishr, 1) := by decide +kernel
theorem dX2_placeOf_9 : decode cX2_placeOf 9 = .ok (.bipush 7, 2) := by decide +kernel
theorem dX2_placeOf_11 : decode cX2_placeOf 11 = .ok (.iand, 1) := by decide +kernel
theorem dX2_placeOf_12 : decode cX2_placeOf 12 = .ok (.iadd, 1) := by decide +kernel
theorem dX2_placeOf_13 : decode cX2_placeOf 13 = .ok (.ireturn, 1) := by decide +kernel
theorem dX2_leastNeed_0 : decode cX2_leastNeed 0 = .ok (.iconst 0, 1) := by decide +kernel
theorem dX2_leastNeed_1 : decode cX2_leastNeed 1 = .ok (.istore_n 2, 1) := by decide +kernel
theorem dX2_leastNeed_2 : decode cX2_leastNeed 2 = .ok (.iconst 0, 1) := by decide +kernel
theorem dX2_leastNeed_3 : decode cX2_leastNeed 3 = .ok (.istore_n 3, 1) := by decide +kernel
theorem dX2_leastNeed_4 : decode cX2_leastNeed 4 = .ok (.iload_n 3, 1) := by decide +kernel
theorem dX2_leastNeed_5 : decode cX2_leastNeed 5 = .ok (.aload_n 0, 1) := by decide +kernel
theorem dX2_leastNeed_6 : decode cX2_leastNeed 6 = .ok (.getfield 62, 3) := by decide +kernel
theorem dX2_leastNeed_9 : decode cX2_leastNeed 9 = .ok (.if_icmp .ge 23, 3) := by decide +kernel
theorem dX2_leastNeed_12 : decode cX2_leastNeed 12 = .ok (.iload_n 2, 1) := by decide +kernel
theorem dX2_leastNeed_13 : decode cX2_leastNeed 13 = .ok (.aload_n 0, 1) := by decide +kernel
theorem dX2_leastNeed_14 : decode cX2_leastNeed 14 = .ok (.getfield 18, 3) := by decide +kernel
theorem dX2_leastNeed_17 : decode cX2_leastNeed 17 = .ok (.aload_n 0, 1) := by decide +kernel
theorem dX2_leastNeed_18 : decode cX2_leastNeed 18 = .ok (.iload_n 1, 1) := by decide +kernel
theorem dX2_leastNeed_19 : decode cX2_leastNeed 19 = .ok (.iload_n 3, 1) := by decide +kernel
theorem dX2_leastNeed_20 : decode cX2_leastNeed 20 = .ok (.invokevirtual 98, 3) := by decide +kernel
theorem dX2_leastNeed_23 : decode cX2_leastNeed 23 = .ok (.iaload, 1) := by decide +kernel
theorem dX2_leastNeed_24 : decode cX2_leastNeed 24 = .ok (.ior, 1) := by decide +kernel
theorem dX2_leastNeed_25 : decode cX2_leastNeed 25 = .ok (.istore_n 2, 1) := by decide +kernel
theorem dX2_leastNeed_26 : decode cX2_leastNeed 26 = .ok (.iinc 3 1, 3) := by decide +kernel
theorem dX2_leastNeed_29 : decode cX2_leastNeed 29 = .ok (.goto (-25), 3) := by decide +kernel
theorem dX2_leastNeed_32 : decode cX2_leastNeed 32 = .ok (.iload_n 2, 1) := by decide +kernel
theorem dX2_leastNeed_33 : decode cX2_leastNeed 33 = .ok (.invokestatic 101, 3) := by decide +kernel
theorem dX2_leastNeed_36 : decode cX2_leastNeed 36 = .ok (.istore_n 3, 1) := by decide +kernel
theorem dX2_leastNeed_37 : decode cX2_leastNeed 37 = .ok (.iconst 0, 1) := by decide +kernel
theorem dX2_leastNeed_38 : decode cX2_leastNeed 38 = .ok (.istore 4, 2) := by decide +kernel
theorem dX2_leastNeed_40 : decode cX2_leastNeed 40 = .ok (.iconst 1, 1) := by decide +kernel
theorem dX2_leastNeed_41 : decode cX2_leastNeed 41 = .ok (.istore 5, 2) := by decide +kernel
theorem dX2_leastNeed_43 : decode cX2_leastNeed 43 = .ok (.iload 5, 2) := by decide +kernel
theorem dX2_leastNeed_45 : decode cX2_leastNeed 45 = .ok (.aload_n 0, 1) := by decide +kernel
theorem dX2_leastNeed_46 : decode cX2_leastNeed 46 = .ok (.getfield 62, 3) := by decide +kernel
theorem dX2_leastNeed_49 : decode cX2_leastNeed 49 = .ok (.if_icmp .ge 88, 3) := by decide +kernel
theorem dX2_leastNeed_52 : decode cX2_leastNeed 52 = .ok (.aload_n 0, 1) := by decide +kernel
theorem dX2_leastNeed_53 : decode cX2_leastNeed 53 = .ok (.iload_n 1, 1) := by decide +kernel
theorem dX2_leastNeed_54 : decode cX2_leastNeed 54 = .ok (.iload 5, 2) := by decide +kernel
theorem dX2_leastNeed_56 : decode cX2_leastNeed 56 = .ok (.invokevirtual 98, 3) := by decide +kernel
theorem dX2_leastNeed_59 : decode cX2_leastNeed 59 = .ok (.istore 6, 2) := by decide +kernel
theorem dX2_leastNeed_61 : decode cX2_leastNeed 61 = .ok (.iconst 0, 1) := by decide +kernel
theorem dX2_leastNeed_62 : decode cX2_leastNeed 62 = .ok (.istore 7, 2) := by decide +kernel
theorem dX2_leastNeed_64 : decode cX2_leastNeed 64 = .ok (.iload 7, 2) := by decide +kernel
theorem dX2_leastNeed_66 : decode cX2_leastNeed 66 = .ok (.iload 5, 2) := by decide +kernel
theorem dX2_leastNeed_68 : decode cX2_leastNeed 68 = .ok (.if_icmp .ge 63, 3) := by decide +kernel
theorem dX2_leastNeed_71 : decode cX2_leastNeed 71 = .ok (.aload_n 0, 1) := by decide +kernel
theorem dX2_leastNeed_72 : decode cX2_leastNeed 72 = .ok (.iload_n 1, 1) := by decide +kernel
theorem dX2_leastNeed_73 : decode cX2_leastNeed 73 = .ok (.iload 7, 2) := by decide +kernel
theorem dX2_leastNeed_75 : decode cX2_leastNeed 75 = .ok (.invokevirtual 98, 3) := by decide +kernel
theorem dX2_leastNeed_78 : decode cX2_leastNeed 78 = .ok (.istore 8, 2) := by decide +kernel
theorem dX2_leastNeed_80 : decode cX2_leastNeed 80 = .ok (.iload_n 2, 1) := by decide +kernel
theorem dX2_leastNeed_81 : decode cX2_leastNeed 81 = .ok (.aload_n 0, 1) := by decide +kernel
theorem dX2_leastNeed_82 : decode cX2_leastNeed 82 = .ok (.getfield 18, 3) := by decide +kernel
theorem dX2_leastNeed_85 : decode cX2_leastNeed 85 = .ok (.iload 6, 2) := by decide +kernel
theorem dX2_leastNeed_87 : decode cX2_leastNeed 87 = .ok (.iaload, 1) := by decide +kernel
theorem dX2_leastNeed_88 : decode cX2_leastNeed 88 = .ok (.aload_n 0, 1) := by decide +kernel
theorem dX2_leastNeed_89 : decode cX2_leastNeed 89 = .ok (.getfield 18, 3) := by decide +kernel
theorem dX2_leastNeed_92 : decode cX2_leastNeed 92 = .ok (.iload 8, 2) := by decide +kernel
theorem dX2_leastNeed_94 : decode cX2_leastNeed 94 = .ok (.iaload, 1) := by decide +kernel
theorem dX2_leastNeed_95 : decode cX2_leastNeed 95 = .ok (.ior, 1) := by decide +kernel
theorem dX2_leastNeed_96 : decode cX2_leastNeed 96 = .ok (.iconst (-1), 1) := by decide +kernel
theorem dX2_leastNeed_97 : decode cX2_leastNeed 97 = .ok (.ixor, 1) := by decide +kernel
theorem dX2_leastNeed_98 : decode cX2_leastNeed 98 = .ok (.iand, 1) := by decide +kernel
theorem dX2_leastNeed_99 : decode cX2_leastNeed 99 = .ok (.invokestatic 101, 3) := by decide +kernel
theorem dX2_leastNeed_102 : decode cX2_leastNeed 102 = .ok (.istore 9, 2) := by decide +kernel
theorem dX2_leastNeed_104 : decode cX2_leastNeed 104 = .ok (.iload_n 3, 1) := by decide +kernel
theorem dX2_leastNeed_105 : decode cX2_leastNeed 105 = .ok (.iload 9, 2) := by decide +kernel
theorem dX2_leastNeed_107 : decode cX2_leastNeed 107 = .ok (.aload_n 0, 1) := by decide +kernel
theorem dX2_leastNeed_108 : decode cX2_leastNeed 108 = .ok (.iload 4, 2) := by decide +kernel
theorem dX2_leastNeed_110 : decode cX2_leastNeed 110 = .ok (.iload 6, 2) := by decide +kernel
theorem dX2_leastNeed_112 : decode cX2_leastNeed 112 = .ok (.iload 8, 2) := by decide +kernel
theorem dX2_leastNeed_114 : decode cX2_leastNeed 114 = .ok (.invokevirtual 106, 3) := by decide +kernel
theorem dX2_leastNeed_117 : decode cX2_leastNeed 117 = .ok (.iadd, 1) := by decide +kernel
theorem dX2_leastNeed_118 : decode cX2_leastNeed 118 = .ok (.invokestatic 110, 3) := by decide +kernel
theorem dX2_leastNeed_121 : decode cX2_leastNeed 121 = .ok (.istore_n 3, 1) := by decide +kernel
theorem dX2_leastNeed_122 : decode cX2_leastNeed 122 = .ok (.iinc 4 1, 3) := by decide +kernel
theorem dX2_leastNeed_125 : decode cX2_leastNeed 125 = .ok (.iinc 7 1, 3) := by decide +kernel
theorem dX2_leastNeed_128 : decode cX2_leastNeed 128 = .ok (.goto (-64), 3) := by decide +kernel
theorem dX2_leastNeed_131 : decode cX2_leastNeed 131 = .ok (.iinc 5 1, 3) := by decide +kernel
theorem dX2_leastNeed_134 : decode cX2_leastNeed 134 = .ok (.goto (-91), 3) := by decide +kernel
theorem dX2_leastNeed_137 : decode cX2_leastNeed 137 = .ok (.iload_n 3, 1) := by decide +kernel
theorem dX2_leastNeed_138 : decode cX2_leastNeed 138 = .ok (.ireturn, 1) := by decide +kernel
theorem dX2_pairNeedAt_0 : decode cX2_pairNeedAt 0 = .ok (.aload_n 0, 1) := by decide +kernel
theorem dX2_pairNeedAt_1 : decode cX2_pairNeedAt 1 = .ok (.getfield 21, 3) := by decide +kernel
theorem dX2_pairNeedAt_4 : decode cX2_pairNeedAt 4 = .ok (.iload_n 1, 1) := by decide +kernel
theorem dX2_pairNeedAt_5 : decode cX2_pairNeedAt 5 = .ok (.bipush 8, 2) := by decide +kernel
theorem dX2_pairNeedAt_7 : decode cX2_pairNeedAt 7 = .ok (.imul, 1) := by decide +kernel
theorem dX2_pairNeedAt_8 : decode cX2_pairNeedAt 8 = .ok (.iload_n 2, 1) := by decide +kernel
theorem dX2_pairNeedAt_9 : decode cX2_pairNeedAt 9 = .ok (.bipush 8, 2) := by decide +kernel
theorem dX2_pairNeedAt_11 : decode cX2_pairNeedAt 11 = .ok (.irem, 1) := by decide +kernel
theorem dX2_pairNeedAt_12 : decode cX2_pairNeedAt 12 = .ok (.iadd, 1) := by decide +kernel
theorem dX2_pairNeedAt_13 : decode cX2_pairNeedAt 13 = .ok (.bipush 8, 2) := by decide +kernel
theorem dX2_pairNeedAt_15 : decode cX2_pairNeedAt 15 = .ok (.imul, 1) := by decide +kernel
theorem dX2_pairNeedAt_16 : decode cX2_pairNeedAt 16 = .ok (.iload_n 3, 1) := by decide +kernel
theorem dX2_pairNeedAt_17 : decode cX2_pairNeedAt 17 = .ok (.bipush 8, 2) := by decide +kernel
theorem dX2_pairNeedAt_19 : decode cX2_pairNeedAt 19 = .ok (.irem, 1) := by decide +kernel
theorem dX2_pairNeedAt_20 : decode cX2_pairNeedAt 20 = .ok (.iadd, 1) := by decide +kernel
theorem dX2_pairNeedAt_21 : decode cX2_pairNeedAt 21 = .ok (.iaload, 1) := by decide +kernel
theorem dX2_pairNeedAt_22 : decode cX2_pairNeedAt 22 = .ok (.ireturn, 1) := by decide +kernel
theorem dX2_nextStations_0 : decode cX2_nextStations 0 = .ok (.iconst 0, 1) := by decide +kernel
theorem dX2_nextStations_1 : decode cX2_nextStations 1 = .ok (.istore_n 2, 1) := by decide +kernel
theorem dX2_nextStations_2 : decode cX2_nextStations 2 = .ok (.iconst 0, 1) := by decide +kernel
theorem dX2_nextStations_3 : decode cX2_nextStations 3 = .ok (.istore_n 3, 1) := by decide +kernel
theorem dX2_nextStations_4 : decode cX2_nextStations 4 = .ok (.iload_n 3, 1) := by decide +kernel
theorem dX2_nextStations_5 : decode cX2_nextStations 5 = .ok (.aload_n 0, 1) := by decide +kernel
theorem dX2_nextStations_6 : decode cX2_nextStations 6 = .ok (.getfield 62, 3) := by decide +kernel
theorem dX2_nextStations_9 : decode cX2_nextStations 9 = .ok (.if_icmp .ge 35, 3) := by decide +kernel
theorem dX2_nextStations_12 : decode cX2_nextStations 12 = .ok (.aload_n 0, 1) := by decide +kernel
theorem dX2_nextStations_13 : decode cX2_nextStations 13 = .ok (.getfield 15, 3) := by decide +kernel
theorem dX2_nextStations_16 : decode cX2_nextStations 16 = .ok (.aload_n 0, 1) := by decide +kernel
theorem dX2_nextStations_17 : decode cX2_nextStations 17 = .ok (.iload_n 1, 1) := by decide +kernel
theorem dX2_nextStations_18 : decode cX2_nextStations 18 = .ok (.iload_n 3, 1) := by decide +kernel
theorem dX2_nextStations_19 : decode cX2_nextStations 19 = .ok (.invokevirtual 98, 3) := by decide +kernel
theorem dX2_nextStations_22 : decode cX2_nextStations 22 = .ok (.iaload, 1) := by decide +kernel
theorem dX2_nextStations_23 : decode cX2_nextStations 23 = .ok (.istore 4, 2) := by decide +kernel
theorem dX2_nextStations_25 : decode cX2_nextStations 25 = .ok (.iload 4, 2) := by decide +kernel
theorem dX2_nextStations_27 : decode cX2_nextStations 27 = .ok (.iconst (-1), 1) := by decide +kernel
theorem dX2_nextStations_28 : decode cX2_nextStations 28 = .ok (.if_icmp .eq 10, 3) := by decide +kernel
theorem dX2_nextStations_31 : decode cX2_nextStations 31 = .ok (.iload_n 2, 1) := by decide +kernel
theorem dX2_nextStations_32 : decode cX2_nextStations 32 = .ok (.iconst 1, 1) := by decide +kernel
theorem dX2_nextStations_33 : decode cX2_nextStations 33 = .ok (.iload 4, 2) := by decide +kernel
theorem dX2_nextStations_35 : decode cX2_nextStations 35 = .ok (.ishl, 1) := by decide +kernel
theorem dX2_nextStations_36 : decode cX2_nextStations 36 = .ok (.ior, 1) := by decide +kernel
theorem dX2_nextStations_37 : decode cX2_nextStations 37 = .ok (.istore_n 2, 1) := by decide +kernel
theorem dX2_nextStations_38 : decode cX2_nextStations 38 = .ok (.iinc 3 1, 3) := by decide +kernel
theorem dX2_nextStations_41 : decode cX2_nextStations 41 = .ok (.goto (-37), 3) := by decide +kernel
theorem dX2_nextStations_44 : decode cX2_nextStations 44 = .ok (.iload_n 2, 1) := by decide +kernel
theorem dX2_nextStations_45 : decode cX2_nextStations 45 = .ok (.ireturn, 1) := by decide +kernel
theorem dX2_passed_0 : decode cX2_passed 0 = .ok (.iload_n 1, 1) := by decide +kernel
theorem dX2_passed_1 : decode cX2_passed 1 = .ok (.istore_n 3, 1) := by decide +kernel
theorem dX2_passed_2 : decode cX2_passed 2 = .ok (.iconst 0, 1) := by decide +kernel
theorem dX2_passed_3 : decode cX2_passed 3 = .ok (.istore 4, 2) := by decide +kernel
theorem dX2_passed_5 : decode cX2_passed 5 = .ok (.iload 4, 2) := by decide +kernel
theorem dX2_passed_7 : decode cX2_passed 7 = .ok (.aload_n 0, 1) := by decide +kernel
theorem dX2_passed_8 : decode cX2_passed 8 = .ok (.getfield 62, 3) := by decide +kernel
theorem dX2_passed_11 : decode cX2_passed 11 = .ok (.if_icmp .ge 34, 3) := by decide +kernel
theorem dX2_passed_14 : decode cX2_passed 14 = .ok (.aload_n 0, 1) := by decide +kernel
theorem dX2_passed_15 : decode cX2_passed 15 = .ok (.getfield 15, 3) := by decide +kernel
theorem dX2_passed_18 : decode cX2_passed 18 = .ok (.aload_n 0, 1) := by decide +kernel
theorem dX2_passed_19 : decode cX2_passed 19 = .ok (.iload_n 1, 1) := by decide +kernel
theorem dX2_passed_20 : decode cX2_passed 20 = .ok (.iload 4, 2) := by decide +kernel
theorem dX2_passed_22 : decode cX2_passed 22 = .ok (.invokevirtual 98, 3) := by decide +kernel
theorem dX2_passed_25 : decode cX2_passed 25 = .ok (.iaload, 1) := by decide +kernel
theorem dX2_passed_26 : decode cX2_passed 26 = .ok (.iload_n 2, 1) := by decide +kernel
theorem dX2_passed_27 : decode cX2_passed 27 = .ok (.if_icmp .ne 12, 3) := by decide +kernel
theorem dX2_passed_30 : decode cX2_passed 30 = .ok (.iload_n 3, 1) := by decide +kernel
theorem dX2_passed_31 : decode cX2_passed 31 = .ok (.iconst 1, 1) := by decide +kernel
theorem dX2_passed_32 : decode cX2_passed 32 = .ok (.iconst 3, 1) := by decide +kernel
theorem dX2_passed_33 : decode cX2_passed 33 = .ok (.iload 4, 2) := by decide +kernel
theorem dX2_passed_35 : decode cX2_passed 35 = .ok (.imul, 1) := by decide +kernel
theorem dX2_passed_36 : decode cX2_passed 36 = .ok (.ishl, 1) := by decide +kernel
theorem dX2_passed_37 : decode cX2_passed 37 = .ok (.iadd, 1) := by decide +kernel
theorem dX2_passed_38 : decode cX2_passed 38 = .ok (.istore_n 3, 1) := by decide +kernel
theorem dX2_passed_39 : decode cX2_passed 39 = .ok (.iinc 4 1, 3) := by decide +kernel
theorem dX2_passed_42 : decode cX2_passed 42 = .ok (.goto (-37), 3) := by decide +kernel
theorem dX2_passed_45 : decode cX2_passed 45 = .ok (.iload_n 3, 1) := by decide +kernel
theorem dX2_passed_46 : decode cX2_passed 46 = .ok (.ireturn, 1) := by decide +kernel
theorem dX3_init_0 : decode cX3_init 0 = .ok (.aload_n 0, 1) := by decide +kernel
theorem dX3_init_1 : decode cX3_init 1 = .ok (.invokespecial 3, 3) := by decide +kernel
theorem dX3_init_4 : decode cX3_init 4 = .ok (.aload_n 0, 1) := by decide +kernel
theorem dX3_init_5 : decode cX3_init 5 = .ok (.bipush 6, 2) := by decide +kernel
theorem dX3_init_7 : decode cX3_init 7 = .ok (.newarray .int, 2) := by decide +kernel
theorem dX3_init_9 : decode cX3_init 9 = .ok (.putfield 11, 3) := by decide +kernel
theorem dX3_init_12 : decode cX3_init 12 = .ok (.return_, 1) := by decide +kernel
theorem dX3_tell_0 : decode cX3_tell 0 = .ok (.aload_n 0, 1) := by decide +kernel
theorem dX3_tell_1 : decode cX3_tell 1 = .ok (.getfield 11, 3) := by decide +kernel
theorem dX3_tell_4 : decode cX3_tell 4 = .ok (.iload_n 1, 1) := by decide +kernel
theorem dX3_tell_5 : decode cX3_tell 5 = .ok (.iload_n 2, 1) := by decide +kernel
theorem dX3_tell_6 : decode cX3_tell 6 = .ok (.iastore, 1) := by decide +kernel
theorem dX3_tell_7 : decode cX3_tell 7 = .ok (.return_, 1) := by decide +kernel
theorem dX3_fewestFor_0 : decode cX3_fewestFor 0 = .ok (.iload_n 1, 1) := by decide +kernel
theorem dX3_fewestFor_1 : decode cX3_fewestFor 1 = .ok (.istore_n 2, 1) := by decide +kernel
theorem dX3_fewestFor_2 : decode cX3_fewestFor 2 = .ok (.iconst 1, 1) := by decide +kernel
theorem dX3_fewestFor_3 : decode cX3_fewestFor 3 = .ok (.istore_n 3, 1) := by decide +kernel
theorem dX3_fewestFor_4 : decode cX3_fewestFor 4 = .ok (.iload_n 3, 1) := by decide +kernel
theorem dX3_fewestFor_5 : decode cX3_fewestFor 5 = .ok (.bipush 64, 2) := by decide +kernel
theorem dX3_fewestFor_7 : decode cX3_fewestFor 7 = .ok (.if_icmp .ge 41, 3) := by decide +kernel
theorem dX3_fewestFor_10 : decode cX3_fewestFor 10 = .ok (.aload_n 0, 1) := by decide +kernel
theorem dX3_fewestFor_11 : decode cX3_fewestFor 11 = .ok (.iload_n 3, 1) := by decide +kernel
theorem dX3_fewestFor_12 : decode cX3_fewestFor 12 = .ok (.invokevirtual 15, 3) := by decide +kernel
theorem dX3_fewestFor_15 : decode cX3_fewestFor 15 = .ok (.istore 4, 2) := by decide +kernel
theorem dX3_fewestFor_17 : decode cX3_fewestFor 17 = .ok (.iload 4, 2) := by decide +kernel
theorem dX3_fewestFor_19 : decode cX3_fewestFor 19 = .ok (.iload_n 1, 1) := by decide +kernel
theorem dX3_fewestFor_20 : decode cX3_fewestFor 20 = .ok (.iconst (-1), 1) := by decide +kernel
theorem dX3_fewestFor_21 : decode cX3_fewestFor 21 = .ok (.ixor, 1) := by decide +kernel
theorem dX3_fewestFor_22 : decode cX3_fewestFor 22 = .ok (.iand, 1) := by decide +kernel
theorem dX3_fewestFor_23 : decode cX3_fewestFor 23 = .ok (.ifCond .ne 19, 3) := by decide +kernel
theorem dX3_fewestFor_26 : decode cX3_fewestFor 26 = .ok (.iload_n 2, 1) := by decide +kernel
theorem dX3_fewestFor_27 : decode cX3_fewestFor 27 = .ok (.iload_n 3, 1) := by decide +kernel
theorem dX3_fewestFor_28 : decode cX3_fewestFor 28 = .ok (.bipush 7, 2) := by decide +kernel
theorem dX3_fewestFor_30 : decode cX3_fewestFor 30 = .ok (.ishl, 1) := by decide +kernel
theorem dX3_fewestFor_31 : decode cX3_fewestFor 31 = .ok (.iload_n 1, 1) := by decide +kernel
theorem dX3_fewestFor_32 : decode cX3_fewestFor 32 = .ok (.iload 4, 2) := by decide +kernel
theorem dX3_fewestFor_34 : decode cX3_fewestFor 34 = .ok (.iconst (-1), 1) := by decide +kernel
theorem dX3_fewestFor_35 : decode cX3_fewestFor 35 = .ok (.ixor, 1) := by decide +kernel
theorem dX3_fewestFor_36 : decode cX3_fewestFor 36 = .ok (.iand, 1) := by decide +kernel
theorem dX3_fewestFor_37 : decode cX3_fewestFor 37 = .ok (.ior, 1) := by decide +kernel
theorem dX3_fewestFor_38 : decode cX3_fewestFor 38 = .ok (.invokestatic 19, 3) := by decide +kernel
theorem dX3_fewestFor_41 : decode cX3_fewestFor 41 = .ok (.istore_n 2, 1) := by decide +kernel
theorem dX3_fewestFor_42 : decode cX3_fewestFor 42 = .ok (.iinc 3 1, 3) := by decide +kernel
theorem dX3_fewestFor_45 : decode cX3_fewestFor 45 = .ok (.goto (-41), 3) := by decide +kernel
theorem dX3_fewestFor_48 : decode cX3_fewestFor 48 = .ok (.iload_n 2, 1) := by decide +kernel
theorem dX3_fewestFor_49 : decode cX3_fewestFor 49 = .ok (.ireturn, 1) := by decide +kernel
theorem dX3_unionOf_0 : decode cX3_unionOf 0 = .ok (.iconst 0, 1) := by decide +kernel
theorem dX3_unionOf_1 : decode cX3_unionOf 1 = .ok (.istore_n 2, 1) := by decide +kernel
theorem dX3_unionOf_2 : decode cX3_unionOf 2 = .ok (.iconst 0, 1) := by decide +kernel
theorem dX3_unionOf_3 : decode cX3_unionOf 3 = .ok (.istore_n 3, 1) := by decide +kernel
theorem dX3_unionOf_4 : decode cX3_unionOf 4 = .ok (.iload_n 3, 1) := by decide +kernel
theorem dX3_unionOf_5 : decode cX3_unionOf 5 = .ok (.bipush 6, 2) := by decide +kernel
theorem dX3_unionOf_7 : decode cX3_unionOf 7 = .ok (.if_icmp .ge 26, 3) := by decide +kernel
theorem dX3_unionOf_10 : decode cX3_unionOf 10 = .ok (.iload_n 1, 1) := by decide +kernel
theorem dX3_unionOf_11 : decode cX3_unionOf 11 = .ok (.iload_n 3, 1) := by decide +kernel
theorem dX3_unionOf_12 : decode cX3_unionOf 12 = .ok (.ishr, 1) := by decide +kernel
theorem dX3_unionOf_13 : decode cX3_unionOf 13 = .ok (.iconst 1, 1) := by decide +kernel
theorem dX3_unionOf_14 : decode cX3_unionOf 14 = .ok (.iand, 1) := by decide +kernel
theorem dX3_unionOf_15 : decode cX3_unionOf 15 = .ok (.ifCond .eq 12, 3) := by decide +kernel
theorem dX3_unionOf_18 : decode cX3_unionOf 18 = .ok (.iload_n 2, 1) := by decide +kernel
theorem dX3_unionOf_19 : decode cX3_unionOf 19 = .ok (.aload_n 0, 1) := by decide +kernel
theorem dX3_unionOf_20 : decode cX3_unionOf 20 = .ok (.getfield 11, 3) := by decide +kernel
theorem dX3_unionOf_23 : decode cX3_unionOf 23 = .ok (.iload_n 3, 1) := by decide +kernel
theorem dX3_unionOf_24 : decode cX3_unionOf 24 = .ok (.iaload, 1) := by decide +kernel
theorem dX3_unionOf_25 : decode cX3_unionOf 25 = .ok (.ior, 1) := by decide +kernel
theorem dX3_unionOf_26 : decode cX3_unionOf 26 = .ok (.istore_n 2, 1) := by decide +kernel
theorem dX3_unionOf_27 : decode cX3_unionOf 27 = .ok (.iinc 3 1, 3) := by decide +kernel
theorem dX3_unionOf_30 : decode cX3_unionOf 30 = .ok (.goto (-26), 3) := by decide +kernel
theorem dX3_unionOf_33 : decode cX3_unionOf 33 = .ok (.iload_n 2, 1) := by decide +kernel
theorem dX3_unionOf_34 : decode cX3_unionOf 34 = .ok (.ireturn, 1) := by decide +kernel
theorem dX3_lesser_0 : decode cX3_lesser 0 = .ok (.iload_n 0, 1) := by decide +kernel
theorem dX3_lesser_1 : decode cX3_lesser 1 = .ok (.invokestatic 23, 3) := by decide +kernel
theorem dX3_lesser_4 : decode cX3_lesser 4 = .ok (.iload_n 1, 1) := by decide +kernel
theorem dX3_lesser_5 : decode cX3_lesser 5 = .ok (.invokestatic 23, 3) := by decide +kernel
theorem dX3_lesser_8 : decode cX3_lesser 8 = .ok (.isub, 1) := by decide +kernel
theorem dX3_lesser_9 : decode cX3_lesser 9 = .ok (.istore_n 2, 1) := by decide +kernel
theorem dX3_lesser_10 : decode cX3_lesser 10 = .ok (.iload_n 2, 1) := by decide +kernel
theorem dX3_lesser_11 : decode cX3_lesser 11 = .ok (.ifCond .eq 13, 3) := by decide +kernel
theorem dX3_lesser_14 : decode cX3_lesser 14 = .ok (.iload_n 2, 1) := by decide +kernel
theorem dX3_lesser_15 : decode cX3_lesser 15 = .ok (.ifCond .ge 7, 3) := by decide +kernel
theorem dX3_lesser_18 : decode cX3_lesser 18 = .ok (.iload_n 0, 1) := by decide +kernel
theorem dX3_lesser_19 : decode cX3_lesser 19 = .ok (.goto 4, 3) := by decide +kernel
theorem dX3_lesser_22 : decode cX3_lesser 22 = .ok (.iload_n 1, 1) := by decide +kernel
theorem dX3_lesser_23 : decode cX3_lesser 23 = .ok (.ireturn, 1) := by decide +kernel
theorem dX3_lesser_24 : decode cX3_lesser 24 = .ok (.iload_n 0, 1) := by decide +kernel
theorem dX3_lesser_25 : decode cX3_lesser 25 = .ok (.iload_n 1, 1) := by decide +kernel
theorem dX3_lesser_26 : decode cX3_lesser 26 = .ok (.invokestatic 28, 3) := by decide +kernel
theorem dX3_lesser_29 : decode cX3_lesser 29 = .ok (.ireturn, 1) := by decide +kernel
theorem dX4_init_0 : decode cX4_init 0 = .ok (.aload_n 0, 1) := by decide +kernel
theorem dX4_init_1 : decode cX4_init 1 = .ok (.invokespecial 3, 3) := by decide +kernel
theorem dX4_init_4 : decode cX4_init 4 = .ok (.aload_n 0, 1) := by decide +kernel
theorem dX4_init_5 : decode cX4_init 5 = .ok (.bipush 6, 2) := by decide +kernel
theorem dX4_init_7 : decode cX4_init 7 = .ok (.anewarray 9, 3) := by decide +kernel
theorem dX4_init_10 : decode cX4_init 10 = .ok (.putfield 11, 3) := by decide +kernel
theorem dX4_init_13 : decode cX4_init 13 = .ok (.aload_n 0, 1) := by decide +kernel
theorem dX4_init_14 : decode cX4_init 14 = .ok (.bipush 6, 2) := by decide +kernel
theorem dX4_init_16 : decode cX4_init 16 = .ok (.newarray .int, 2) := by decide +kernel
theorem dX4_init_18 : decode cX4_init 18 = .ok (.putfield 17, 3) := by decide +kernel
theorem dX4_init_21 : decode cX4_init 21 = .ok (.aload_n 0, 1) := by decide +kernel
theorem dX4_init_22 : decode cX4_init 22 = .ok (.bipush 42, 2) := by decide +kernel
theorem dX4_init_24 : decode cX4_init 24 = .ok (.newarray .int, 2) := by decide +kernel
theorem dX4_init_26 : decode cX4_init 26 = .ok (.putfield 21, 3) := by decide +kernel
theorem dX4_init_29 : decode cX4_init 29 = .ok (.aload_n 0, 1) := by decide +kernel
theorem dX4_init_30 : decode cX4_init 30 = .ok (.new 24, 3) := by decide +kernel
theorem dX4_init_33 : decode cX4_init 33 = .ok (.dup, 1) := by decide +kernel
theorem dX4_init_34 : decode cX4_init 34 = .ok (.invokespecial 26, 3) := by decide +kernel
theorem dX4_init_37 : decode cX4_init 37 = .ok (.putfield 27, 3) := by decide +kernel
theorem dX4_init_40 : decode cX4_init 40 = .ok (.aload_n 0, 1) := by decide +kernel
theorem dX4_init_41 : decode cX4_init 41 = .ok (.new 31, 3) := by decide +kernel
theorem dX4_init_44 : decode cX4_init 44 = .ok (.dup, 1) := by decide +kernel
theorem dX4_init_45 : decode cX4_init 45 = .ok (.invokespecial 33, 3) := by decide +kernel
theorem dX4_init_48 : decode cX4_init 48 = .ok (.putfield 34, 3) := by decide +kernel
theorem dX4_init_51 : decode cX4_init 51 = .ok (.aload_n 0, 1) := by decide +kernel
theorem dX4_init_52 : decode cX4_init 52 = .ok (.new 38, 3) := by decide +kernel
theorem dX4_init_55 : decode cX4_init 55 = .ok (.dup, 1) := by decide +kernel
theorem dX4_init_56 : decode cX4_init 56 = .ok (.invokespecial 40, 3) := by decide +kernel
theorem dX4_init_59 : decode cX4_init 59 = .ok (.putfield 41, 3) := by decide +kernel
theorem dX4_init_62 : decode cX4_init 62 = .ok (.iconst 0, 1) := by decide +kernel
theorem dX4_init_63 : decode cX4_init 63 = .ok (.istore_n 1, 1) := by decide +kernel
theorem dX4_init_64 : decode cX4_init 64 = .ok (.iload_n 1, 1) := by decide +kernel
theorem dX4_init_65 : decode cX4_init 65 = .ok (.bipush 6, 2) := by decide +kernel
theorem dX4_init_67 : decode cX4_init 67 = .ok (.if_icmp .ge 22, 3) := by decide +kernel
theorem dX4_init_70 : decode cX4_init 70 = .ok (.aload_n 0, 1) := by decide +kernel
theorem dX4_init_71 : decode cX4_init 71 = .ok (.getfield 11, 3) := by decide +kernel
theorem dX4_init_74 : decode cX4_init 74 = .ok (.iload_n 1, 1) := by decide +kernel
theorem dX4_init_75 : decode cX4_init 75 = .ok (.new 9, 3) := by decide +kernel
theorem dX4_init_78 : decode cX4_init 78 = .ok (.dup, 1) := by decide +kernel
theorem dX4_init_79 : decode cX4_init 79 = .ok (.invokespecial 45, 3) := by decide +kernel
theorem dX4_init_82 : decode cX4_init 82 = .ok (.aastore, 1) := by decide +kernel
theorem dX4_init_83 : decode cX4_init 83 = .ok (.iinc 1 1, 3) := by decide +kernel
theorem dX4_init_86 : decode cX4_init 86 = .ok (.goto (-22), 3) := by decide +kernel
theorem dX4_init_89 : decode cX4_init 89 = .ok (.return_, 1) := by decide +kernel
theorem dX4_make_0 : decode cX4_make 0 = .ok (.aload_n 0, 1) := by decide +kernel
theorem dX4_make_1 : decode cX4_make 1 = .ok (.aload_n 1, 1) := by decide +kernel
theorem dX4_make_2 : decode cX4_make 2 = .ok (.iload_n 2, 1) := by decide +kernel
theorem dX4_make_3 : decode cX4_make 3 = .ok (.invokevirtual 46, 3) := by decide +kernel
theorem dX4_make_6 : decode cX4_make 6 = .ok (.aload_n 0, 1) := by decide +kernel
theorem dX4_make_7 : decode cX4_make 7 = .ok (.getfield 27, 3) := by decide +kernel
end
section
theorem dX4_make_10 : decode cX4_make 10 = .ok (.aload_n 0, 1) := by decide +kernel
theorem dX4_make_11 : decode cX4_make 11 = .ok (.getfield 11, 3) := by decide +kernel
theorem dX4_make_14 : decode cX4_make 14 = .ok (.aload_n 0, 1) := by decide +kernel
theorem dX4_make_15 : decode cX4_make 15 = .ok (.getfield 50, 3) := by decide +kernel
theorem dX4_make_18 : decode cX4_make 18 = .ok (.invokevirtual 54, 3) := by decide +kernel
theorem dX4_make_21 : decode cX4_make 21 = .ok (.iconst 0, 1) := by decide +kernel
theorem dX4_make_22 : decode cX4_make 22 = .ok (.istore_n 3, 1) := by decide +kernel
theorem dX4_make_23 : decode cX4_make 23 = .ok (.iload_n 3, 1) := by decide +kernel
theorem dX4_make_24 : decode cX4_make 24 = .ok (.aload_n 0, 1) := by decide +kernel
theorem dX4_make_25 : decode cX4_make 25 = .ok (.getfield 50, 3) := by decide +kernel
theorem dX4_make_28 : decode cX4_make 28 = .ok (.if_icmp .ge 14, 3) := by decide +kernel
theorem dX4_make_31 : decode cX4_make 31 = .ok (.aload_n 0, 1) := by decide +kernel
theorem dX4_make_32 : decode cX4_make 32 = .ok (.iload_n 3, 1) := by decide +kernel
theorem dX4_make_33 : decode cX4_make 33 = .ok (.invokevirtual 57, 3) := by decide +kernel
theorem dX4_make_36 : decode cX4_make 36 = .ok (.iinc 3 1, 3) := by decide +kernel
theorem dX4_make_39 : decode cX4_make 39 = .ok (.goto (-16), 3) := by decide +kernel
theorem dX4_make_42 : decode cX4_make 42 = .ok (.aload_n 0, 1) := by decide +kernel
theorem dX4_make_43 : decode cX4_make 43 = .ok (.getfield 34, 3) := by decide +kernel
theorem dX4_make_46 : decode cX4_make 46 = .ok (.aload_n 0, 1) := by decide +kernel
theorem dX4_make_47 : decode cX4_make 47 = .ok (.getfield 11, 3) := by decide +kernel
theorem dX4_make_50 : decode cX4_make 50 = .ok (.aload_n 0, 1) := by decide +kernel
theorem dX4_make_51 : decode cX4_make 51 = .ok (.getfield 50, 3) := by decide +kernel
theorem dX4_make_54 : decode cX4_make 54 = .ok (.invokevirtual 61, 3) := by decide +kernel
theorem dX4_make_57 : decode cX4_make 57 = .ok (.aload_n 0, 1) := by decide +kernel
theorem dX4_make_58 : decode cX4_make 58 = .ok (.invokevirtual 64, 3) := by decide +kernel
theorem dX4_make_61 : decode cX4_make 61 = .ok (.return_, 1) := by decide +kernel
theorem dX4_isMade_0 : decode cX4_isMade 0 = .ok (.aload_n 0, 1) := by decide +kernel
theorem dX4_isMade_1 : decode cX4_isMade 1 = .ok (.getfield 50, 3) := by decide +kernel
theorem dX4_isMade_4 : decode cX4_isMade 4 = .ok (.ifCond .le 7, 3) := by decide +kernel
theorem dX4_isMade_7 : decode cX4_isMade 7 = .ok (.iconst 1, 1) := by decide +kernel
theorem dX4_isMade_8 : decode cX4_isMade 8 = .ok (.goto 4, 3) := by decide +kernel
theorem dX4_isMade_11 : decode cX4_isMade 11 = .ok (.iconst 0, 1) := by decide +kernel
theorem dX4_isMade_12 : decode cX4_isMade 12 = .ok (.ireturn, 1) := by decide +kernel
theorem dX4_rowCount_0 : decode cX4_rowCount 0 = .ok (.aload_n 0, 1) := by decide +kernel
theorem dX4_rowCount_1 : decode cX4_rowCount 1 = .ok (.getfield 27, 3) := by decide +kernel
theorem dX4_rowCount_4 : decode cX4_rowCount 4 = .ok (.getfield 67, 3) := by decide +kernel
theorem dX4_rowCount_7 : decode cX4_rowCount 7 = .ok (.ireturn, 1) := by decide +kernel
theorem dX4_columnCount_0 : decode cX4_columnCount 0 = .ok (.aload_n 0, 1) := by decide +kernel
theorem dX4_columnCount_1 : decode cX4_columnCount 1 = .ok (.getfield 50, 3) := by decide +kernel
theorem dX4_columnCount_4 : decode cX4_columnCount 4 = .ok (.ireturn, 1) := by decide +kernel
theorem dX4_hasRow_0 : decode cX4_hasRow 0 = .ok (.iload_n 1, 1) := by decide +kernel
theorem dX4_hasRow_1 : decode cX4_hasRow 1 = .ok (.ifCond .lt 18, 3) := by decide +kernel
theorem dX4_hasRow_4 : decode cX4_hasRow 4 = .ok (.iload_n 1, 1) := by decide +kernel
theorem dX4_hasRow_5 : decode cX4_hasRow 5 = .ok (.aload_n 0, 1) := by decide +kernel
theorem dX4_hasRow_6 : decode cX4_hasRow 6 = .ok (.getfield 27, 3) := by decide +kernel
theorem dX4_hasRow_9 : decode cX4_hasRow 9 = .ok (.getfield 67, 3) := by decide +kernel
theorem dX4_hasRow_12 : decode cX4_hasRow 12 = .ok (.if_icmp .ge 7, 3) := by decide +kernel
theorem dX4_hasRow_15 : decode cX4_hasRow 15 = .ok (.iconst 1, 1) := by decide +kernel
theorem dX4_hasRow_16 : decode cX4_hasRow 16 = .ok (.goto 4, 3) := by decide +kernel
theorem dX4_hasRow_19 : decode cX4_hasRow 19 = .ok (.iconst 0, 1) := by decide +kernel
theorem dX4_hasRow_20 : decode cX4_hasRow 20 = .ok (.ireturn, 1) := by decide +kernel
theorem dX4_hasColumn_0 : decode cX4_hasColumn 0 = .ok (.iload_n 1, 1) := by decide +kernel
theorem dX4_hasColumn_1 : decode cX4_hasColumn 1 = .ok (.ifCond .lt 15, 3) := by decide +kernel
theorem dX4_hasColumn_4 : decode cX4_hasColumn 4 = .ok (.iload_n 1, 1) := by decide +kernel
theorem dX4_hasColumn_5 : decode cX4_hasColumn 5 = .ok (.aload_n 0, 1) := by decide +kernel
theorem dX4_hasColumn_6 : decode cX4_hasColumn 6 = .ok (.getfield 50, 3) := by decide +kernel
theorem dX4_hasColumn_9 : decode cX4_hasColumn 9 = .ok (.if_icmp .ge 7, 3) := by decide +kernel
theorem dX4_hasColumn_12 : decode cX4_hasColumn 12 = .ok (.iconst 1, 1) := by decide +kernel
theorem dX4_hasColumn_13 : decode cX4_hasColumn 13 = .ok (.goto 4, 3) := by decide +kernel
theorem dX4_hasColumn_16 : decode cX4_hasColumn 16 = .ok (.iconst 0, 1) := by decide +kernel
theorem dX4_hasColumn_17 : decode cX4_hasColumn 17 = .ok (.ireturn, 1) := by decide +kernel
theorem dX4_stationOf_0 : decode cX4_stationOf 0 = .ok (.aload_n 0, 1) := by decide +kernel
theorem dX4_stationOf_1 : decode cX4_stationOf 1 = .ok (.getfield 27, 3) := by decide +kernel
theorem dX4_stationOf_4 : decode cX4_stationOf 4 = .ok (.getfield 70, 3) := by decide +kernel
theorem dX4_stationOf_7 : decode cX4_stationOf 7 = .ok (.iload_n 1, 1) := by decide +kernel
theorem dX4_stationOf_8 : decode cX4_stationOf 8 = .ok (.iaload, 1) := by decide +kernel
theorem dX4_stationOf_9 : decode cX4_stationOf 9 = .ok (.ireturn, 1) := by decide +kernel
theorem dX4_trainOf_0 : decode cX4_trainOf 0 = .ok (.aload_n 0, 1) := by decide +kernel
theorem dX4_trainOf_1 : decode cX4_trainOf 1 = .ok (.getfield 17, 3) := by decide +kernel
theorem dX4_trainOf_4 : decode cX4_trainOf 4 = .ok (.aload_n 0, 1) := by decide +kernel
theorem dX4_trainOf_5 : decode cX4_trainOf 5 = .ok (.getfield 34, 3) := by decide +kernel
theorem dX4_trainOf_8 : decode cX4_trainOf 8 = .ok (.getfield 73, 3) := by decide +kernel
theorem dX4_trainOf_11 : decode cX4_trainOf 11 = .ok (.iload_n 1, 1) := by decide +kernel
theorem dX4_trainOf_12 : decode cX4_trainOf 12 = .ok (.iaload, 1) := by decide +kernel
theorem dX4_trainOf_13 : decode cX4_trainOf 13 = .ok (.iaload, 1) := by decide +kernel
theorem dX4_trainOf_14 : decode cX4_trainOf 14 = .ok (.ireturn, 1) := by decide +kernel
theorem dX4_read_0 : decode cX4_read 0 = .ok (.aload_n 0, 1) := by decide +kernel
theorem dX4_read_1 : decode cX4_read 1 = .ok (.getfield 34, 3) := by decide +kernel
theorem dX4_read_4 : decode cX4_read 4 = .ok (.getfield 73, 3) := by decide +kernel
theorem dX4_read_7 : decode cX4_read 7 = .ok (.iload_n 2, 1) := by decide +kernel
theorem dX4_read_8 : decode cX4_read 8 = .ok (.iaload, 1) := by decide +kernel
theorem dX4_read_9 : decode cX4_read 9 = .ok (.istore 4, 2) := by decide +kernel
theorem dX4_read_11 : decode cX4_read 11 = .ok (.iload_n 1, 1) := by decide +kernel
theorem dX4_read_12 : decode cX4_read 12 = .ok (.aload_n 0, 1) := by decide +kernel
theorem dX4_read_13 : decode cX4_read 13 = .ok (.iload 4, 2) := by decide +kernel
theorem dX4_read_15 : decode cX4_read 15 = .ok (.invokevirtual 76, 3) := by decide +kernel
theorem dX4_read_18 : decode cX4_read 18 = .ok (.if_icmp .lt 13, 3) := by decide +kernel
theorem dX4_read_21 : decode cX4_read 21 = .ok (.iload_n 1, 1) := by decide +kernel
theorem dX4_read_22 : decode cX4_read 22 = .ok (.aload_n 0, 1) := by decide +kernel
theorem dX4_read_23 : decode cX4_read 23 = .ok (.iload 4, 2) := by decide +kernel
theorem dX4_read_25 : decode cX4_read 25 = .ok (.invokevirtual 80, 3) := by decide +kernel
theorem dX4_read_28 : decode cX4_read 28 = .ok (.if_icmp .le 5, 3) := by decide +kernel
theorem dX4_read_31 : decode cX4_read 31 = .ok (.iconst (-1), 1) := by decide +kernel
theorem dX4_read_32 : decode cX4_read 32 = .ok (.ireturn, 1) := by decide +kernel
theorem dX4_read_33 : decode cX4_read 33 = .ok (.iconst 0, 1) := by decide +kernel
theorem dX4_read_34 : decode cX4_read 34 = .ok (.istore 5, 2) := by decide +kernel
theorem dX4_read_36 : decode cX4_read 36 = .ok (.iload 5, 2) := by decide +kernel
theorem dX4_read_38 : decode cX4_read 38 = .ok (.aload_n 0, 1) := by decide +kernel
theorem dX4_read_39 : decode cX4_read 39 = .ok (.getfield 11, 3) := by decide +kernel
theorem dX4_read_42 : decode cX4_read 42 = .ok (.iload 4, 2) := by decide +kernel
theorem dX4_read_44 : decode cX4_read 44 = .ok (.aaload, 1) := by decide +kernel
theorem dX4_read_45 : decode cX4_read 45 = .ok (.getfield 83, 3) := by decide +kernel
theorem dX4_read_48 : decode cX4_read 48 = .ok (.if_icmp .ge 60, 3) := by decide +kernel
theorem dX4_read_51 : decode cX4_read 51 = .ok (.aload_n 0, 1) := by decide +kernel
theorem dX4_read_52 : decode cX4_read 52 = .ok (.getfield 21, 3) := by decide +kernel
theorem dX4_read_55 : decode cX4_read 55 = .ok (.iload 4, 2) := by decide +kernel
theorem dX4_read_57 : decode cX4_read 57 = .ok (.bipush 7, 2) := by decide +kernel
theorem dX4_read_59 : decode cX4_read 59 = .ok (.imul, 1) := by decide +kernel
theorem dX4_read_60 : decode cX4_read 60 = .ok (.iload 5, 2) := by decide +kernel
theorem dX4_read_62 : decode cX4_read 62 = .ok (.iadd, 1) := by decide +kernel
theorem dX4_read_63 : decode cX4_read 63 = .ok (.iaload, 1) := by decide +kernel
theorem dX4_read_64 : decode cX4_read 64 = .ok (.iload_n 1, 1) := by decide +kernel
theorem dX4_read_65 : decode cX4_read 65 = .ok (.if_icmp .ne 37, 3) := by decide +kernel
theorem dX4_read_68 : decode cX4_read 68 = .ok (.iload_n 3, 1) := by decide +kernel
theorem dX4_read_69 : decode cX4_read 69 = .ok (.ifCond .eq 19, 3) := by decide +kernel
theorem dX4_read_72 : decode cX4_read 72 = .ok (.aload_n 0, 1) := by decide +kernel
theorem dX4_read_73 : decode cX4_read 73 = .ok (.getfield 11, 3) := by decide +kernel
theorem dX4_read_76 : decode cX4_read 76 = .ok (.iload 4, 2) := by decide +kernel
theorem dX4_read_78 : decode cX4_read 78 = .ok (.aaload, 1) := by decide +kernel
theorem dX4_read_79 : decode cX4_read 79 = .ok (.getfield 86, 3) := by decide +kernel
theorem dX4_read_82 : decode cX4_read 82 = .ok (.iload 5, 2) := by decide +kernel
theorem dX4_read_84 : decode cX4_read 84 = .ok (.iaload, 1) := by decide +kernel
theorem dX4_read_85 : decode cX4_read 85 = .ok (.goto 16, 3) := by decide +kernel
theorem dX4_read_88 : decode cX4_read 88 = .ok (.aload_n 0, 1) := by decide +kernel
theorem dX4_read_89 : decode cX4_read 89 = .ok (.getfield 11, 3) := by decide +kernel
theorem dX4_read_92 : decode cX4_read 92 = .ok (.iload 4, 2) := by decide +kernel
theorem dX4_read_94 : decode cX4_read 94 = .ok (.aaload, 1) := by decide +kernel
theorem dX4_read_95 : decode cX4_read 95 = .ok (.getfield 89, 3) := by decide +kernel
theorem dX4_read_98 : decode cX4_read 98 = .ok (.iload 5, 2) := by decide +kernel
theorem dX4_read_100 : decode cX4_read 100 = .ok (.iaload, 1) := by decide +kernel
theorem dX4_read_101 : decode cX4_read 101 = .ok (.ireturn, 1) := by decide +kernel
theorem dX4_read_102 : decode cX4_read 102 = .ok (.iinc 5 1, 3) := by decide +kernel
theorem dX4_read_105 : decode cX4_read 105 = .ok (.goto (-69), 3) := by decide +kernel
theorem dX4_read_108 : decode cX4_read 108 = .ok (.bipush (-2), 2) := by decide +kernel
theorem dX4_read_110 : decode cX4_read 110 = .ok (.ireturn, 1) := by decide +kernel
theorem dX4_countBreaches_0 : decode cX4_countBreaches 0 = .ok (.aload_n 0, 1) := by decide +kernel
theorem dX4_countBreaches_1 : decode cX4_countBreaches 1 = .ok (.getfield 34, 3) := by decide +kernel
theorem dX4_countBreaches_4 : decode cX4_countBreaches 4 = .ok (.getfield 92, 3) := by decide +kernel
theorem dX4_countBreaches_7 : decode cX4_countBreaches 7 = .ok (.ireturn, 1) := by decide +kernel
theorem dX4_countKnots_0 : decode cX4_countKnots 0 = .ok (.aload_n 0, 1) := by decide +kernel
theorem dX4_countKnots_1 : decode cX4_countKnots 1 = .ok (.getfield 34, 3) := by decide +kernel
theorem dX4_countKnots_4 : decode cX4_countKnots 4 = .ok (.getfield 95, 3) := by decide +kernel
theorem dX4_countKnots_7 : decode cX4_countKnots 7 = .ok (.ireturn, 1) := by decide +kernel
theorem dX4_isBreach_0 : decode cX4_isBreach 0 = .ok (.aload_n 0, 1) := by decide +kernel
theorem dX4_isBreach_1 : decode cX4_isBreach 1 = .ok (.getfield 34, 3) := by decide +kernel
theorem dX4_isBreach_4 : decode cX4_isBreach 4 = .ok (.aload_n 0, 1) := by decide +kernel
theorem dX4_isBreach_5 : decode cX4_isBreach 5 = .ok (.getfield 34, 3) := by decide +kernel
theorem dX4_isBreach_8 : decode cX4_isBreach 8 = .ok (.getfield 73, 3) := by decide +kernel
theorem dX4_isBreach_11 : decode cX4_isBreach 11 = .ok (.iload_n 2, 1) := by decide +kernel
theorem dX4_isBreach_12 : decode cX4_isBreach 12 = .ok (.iaload, 1) := by decide +kernel
theorem dX4_isBreach_13 : decode cX4_isBreach 13 = .ok (.aload_n 0, 1) := by decide +kernel
theorem dX4_isBreach_14 : decode cX4_isBreach 14 = .ok (.getfield 34, 3) := by decide +kernel
theorem dX4_isBreach_17 : decode cX4_isBreach 17 = .ok (.getfield 73, 3) := by decide +kernel
theorem dX4_isBreach_20 : decode cX4_isBreach 20 = .ok (.iload_n 1, 1) := by decide +kernel
theorem dX4_isBreach_21 : decode cX4_isBreach 21 = .ok (.iaload, 1) := by decide +kernel
theorem dX4_isBreach_22 : decode cX4_isBreach 22 = .ok (.invokevirtual 98, 3) := by decide +kernel
theorem dX4_isBreach_25 : decode cX4_isBreach 25 = .ok (.ireturn, 1) := by decide +kernel
theorem dX4_laneCount_0 : decode cX4_laneCount 0 = .ok (.aload_n 0, 1) := by decide +kernel
theorem dX4_laneCount_1 : decode cX4_laneCount 1 = .ok (.getfield 41, 3) := by decide +kernel
theorem dX4_laneCount_4 : decode cX4_laneCount 4 = .ok (.getfield 102, 3) := by decide +kernel
theorem dX4_laneCount_7 : decode cX4_laneCount 7 = .ok (.ireturn, 1) := by decide +kernel
theorem dX4_laneOf_0 : decode cX4_laneOf 0 = .ok (.aload_n 0, 1) := by decide +kernel
theorem dX4_laneOf_1 : decode cX4_laneOf 1 = .ok (.getfield 41, 3) := by decide +kernel
theorem dX4_laneOf_4 : decode cX4_laneOf 4 = .ok (.getfield 105, 3) := by decide +kernel
theorem dX4_laneOf_7 : decode cX4_laneOf 7 = .ok (.aload_n 0, 1) := by decide +kernel
theorem dX4_laneOf_8 : decode cX4_laneOf 8 = .ok (.getfield 34, 3) := by decide +kernel
theorem dX4_laneOf_11 : decode cX4_laneOf 11 = .ok (.getfield 73, 3) := by decide +kernel
theorem dX4_laneOf_14 : decode cX4_laneOf 14 = .ok (.iload_n 1, 1) := by decide +kernel
theorem dX4_laneOf_15 : decode cX4_laneOf 15 = .ok (.iaload, 1) := by decide +kernel
theorem dX4_laneOf_16 : decode cX4_laneOf 16 = .ok (.iaload, 1) := by decide +kernel
theorem dX4_laneOf_17 : decode cX4_laneOf 17 = .ok (.ireturn, 1) := by decide +kernel
theorem dX4_takeMembers_0 : decode cX4_takeMembers 0 = .ok (.aload_n 0, 1) := by decide +kernel
theorem dX4_takeMembers_1 : decode cX4_takeMembers 1 = .ok (.iconst 0, 1) := by decide +kernel
theorem dX4_takeMembers_2 : decode cX4_takeMembers 2 = .ok (.putfield 50, 3) := by decide +kernel
theorem dX4_takeMembers_5 : decode cX4_takeMembers 5 = .ok (.iconst 0, 1) := by decide +kernel
theorem dX4_takeMembers_6 : decode cX4_takeMembers 6 = .ok (.istore_n 3, 1) := by decide +kernel
theorem dX4_takeMembers_7 : decode cX4_takeMembers 7 = .ok (.iload_n 3, 1) := by decide +kernel
theorem dX4_takeMembers_8 : decode cX4_takeMembers 8 = .ok (.aload_n 1, 1) := by decide +kernel
theorem dX4_takeMembers_9 : decode cX4_takeMembers 9 = .ok (.arraylength, 1) := by decide +kernel
theorem dX4_takeMembers_10 : decode cX4_takeMembers 10 = .ok (.if_icmp .ge 61, 3) := by decide +kernel
theorem dX4_takeMembers_13 : decode cX4_takeMembers 13 = .ok (.aload_n 0, 1) := by decide +kernel
theorem dX4_takeMembers_14 : decode cX4_takeMembers 14 = .ok (.getfield 50, 3) := by decide +kernel
theorem dX4_takeMembers_17 : decode cX4_takeMembers 17 = .ok (.bipush 6, 2) := by decide +kernel
theorem dX4_takeMembers_19 : decode cX4_takeMembers 19 = .ok (.if_icmp .ge 52, 3) := by decide +kernel
theorem dX4_takeMembers_22 : decode cX4_takeMembers 22 = .ok (.iload_n 2, 1) := by decide +kernel
theorem dX4_takeMembers_23 : decode cX4_takeMembers 23 = .ok (.iload_n 3, 1) := by decide +kernel
theorem dX4_takeMembers_24 : decode cX4_takeMembers 24 = .ok (.ishr, 1) := by decide +kernel
theorem dX4_takeMembers_25 : decode cX4_takeMembers 25 = .ok (.iconst 1, 1) := by decide +kernel
theorem dX4_takeMembers_26 : decode cX4_takeMembers 26 = .ok (.iand, 1) := by decide +kernel
theorem dX4_takeMembers_27 : decode cX4_takeMembers 27 = .ok (.ifCond .eq 38, 3) := by decide +kernel
theorem dX4_takeMembers_30 : decode cX4_takeMembers 30 = .ok (.aload_n 0, 1) := by decide +kernel
theorem dX4_takeMembers_31 : decode cX4_takeMembers 31 = .ok (.getfield 11, 3) := by decide +kernel
theorem dX4_takeMembers_34 : decode cX4_takeMembers 34 = .ok (.aload_n 0, 1) := by decide +kernel
theorem dX4_takeMembers_35 : decode cX4_takeMembers 35 = .ok (.getfield 50, 3) := by decide +kernel
theorem dX4_takeMembers_38 : decode cX4_takeMembers 38 = .ok (.aaload, 1) := by decide +kernel
theorem dX4_takeMembers_39 : decode cX4_takeMembers 39 = .ok (.aload_n 1, 1) := by decide +kernel
theorem dX4_takeMembers_40 : decode cX4_takeMembers 40 = .ok (.iload_n 3, 1) := by decide +kernel
theorem dX4_takeMembers_41 : decode cX4_takeMembers 41 = .ok (.aaload, 1) := by decide +kernel
theorem dX4_takeMembers_42 : decode cX4_takeMembers 42 = .ok (.invokevirtual 108, 3) := by decide +kernel
theorem dX4_takeMembers_45 : decode cX4_takeMembers 45 = .ok (.aload_n 0, 1) := by decide +kernel
theorem dX4_takeMembers_46 : decode cX4_takeMembers 46 = .ok (.getfield 17, 3) := by decide +kernel
theorem dX4_takeMembers_49 : decode cX4_takeMembers 49 = .ok (.aload_n 0, 1) := by decide +kernel
theorem dX4_takeMembers_50 : decode cX4_takeMembers 50 = .ok (.getfield 50, 3) := by decide +kernel
theorem dX4_takeMembers_53 : decode cX4_takeMembers 53 = .ok (.iload_n 3, 1) := by decide +kernel
theorem dX4_takeMembers_54 : decode cX4_takeMembers 54 = .ok (.iastore, 1) := by decide +kernel
theorem dX4_takeMembers_55 : decode cX4_takeMembers 55 = .ok (.aload_n 0, 1) := by decide +kernel
theorem dX4_takeMembers_56 : decode cX4_takeMembers 56 = .ok (.dup, 1) := by decide +kernel
theorem dX4_takeMembers_57 : decode cX4_takeMembers 57 = .ok (.getfield 50, 3) := by decide +kernel
theorem dX4_takeMembers_60 : decode cX4_takeMembers 60 = .ok (.iconst 1, 1) := by decide +kernel
theorem dX4_takeMembers_61 : decode cX4_takeMembers 61 = .ok (.iadd, 1) := by decide +kernel
theorem dX4_takeMembers_62 : decode cX4_takeMembers 62 = .ok (.putfield 50, 3) := by decide +kernel
theorem dX4_takeMembers_65 : decode cX4_takeMembers 65 = .ok (.iinc 3 1, 3) := by decide +kernel
theorem dX4_takeMembers_68 : decode cX4_takeMembers 68 = .ok (.goto (-61), 3) := by decide +kernel
theorem dX4_takeMembers_71 : decode cX4_takeMembers 71 = .ok (.return_, 1) := by decide +kernel
theorem dX4_placeStops_0 : decode cX4_placeStops 0 = .ok (.iconst 0, 1) := by decide +kernel
theorem dX4_placeStops_1 : decode cX4_placeStops 1 = .ok (.istore_n 2, 1) := by decide +kernel
theorem dX4_placeStops_2 : decode cX4_placeStops 2 = .ok (.iconst 0, 1) := by decide +kernel
theorem dX4_placeStops_3 : decode cX4_placeStops 3 = .ok (.istore_n 3, 1) := by decide +kernel
theorem dX4_placeStops_4 : decode cX4_placeStops 4 = .ok (.iload_n 3, 1) := by decide +kernel
theorem dX4_placeStops_5 : decode cX4_placeStops 5 = .ok (.aload_n 0, 1) := by decide +kernel
theorem dX4_placeStops_6 : decode cX4_placeStops 6 = .ok (.getfield 27, 3) := by decide +kernel
theorem dX4_placeStops_9 : decode cX4_placeStops 9 = .ok (.getfield 67, 3) := by decide +kernel
theorem dX4_placeStops_12 : decode cX4_placeStops 12 = .ok (.if_icmp .ge 60, 3) := by decide +kernel
theorem dX4_placeStops_15 : decode cX4_placeStops 15 = .ok (.iload_n 2, 1) := by decide +kernel
theorem dX4_placeStops_16 : decode cX4_placeStops 16 = .ok (.aload_n 0, 1) := by decide +kernel
theorem dX4_placeStops_17 : decode cX4_placeStops 17 = .ok (.getfield 11, 3) := by decide +kernel
theorem dX4_placeStops_20 : decode cX4_placeStops 20 = .ok (.iload_n 1, 1) := by decide +kernel
theorem dX4_placeStops_21 : decode cX4_placeStops 21 = .ok (.aaload, 1) := by decide +kernel
theorem dX4_placeStops_22 : decode cX4_placeStops 22 = .ok (.getfield 83, 3) := by decide +kernel
theorem dX4_placeStops_25 : decode cX4_placeStops 25 = .ok (.if_icmp .ge 47, 3) := by decide +kernel
theorem dX4_placeStops_28 : decode cX4_placeStops 28 = .ok (.aload_n 0, 1) := by decide +kernel
theorem dX4_placeStops_29 : decode cX4_placeStops 29 = .ok (.getfield 27, 3) := by decide +kernel
theorem dX4_placeStops_32 : decode cX4_placeStops 32 = .ok (.getfield 70, 3) := by decide +kernel
theorem dX4_placeStops_35 : decode cX4_placeStops 35 = .ok (.iload_n 3, 1) := by decide +kernel
theorem dX4_placeStops_36 : decode cX4_placeStops 36 = .ok (.iaload, 1) := by decide +kernel
theorem dX4_placeStops_37 : decode cX4_placeStops 37 = .ok (.aload_n 0, 1) := by decide +kernel
theorem dX4_placeStops_38 : decode cX4_placeStops 38 = .ok (.getfield 11, 3) := by decide +kernel
theorem dX4_placeStops_41 : decode cX4_placeStops 41 = .ok (.iload_n 1, 1) := by decide +kernel
theorem dX4_placeStops_42 : decode cX4_placeStops 42 = .ok (.aaload, 1) := by decide +kernel
theorem dX4_placeStops_43 : decode cX4_placeStops 43 = .ok (.getfield 112, 3) := by decide +kernel
theorem dX4_placeStops_46 : decode cX4_placeStops 46 = .ok (.iload_n 2, 1) := by decide +kernel
theorem dX4_placeStops_47 : decode cX4_placeStops 47 = .ok (.iaload, 1) := by decide +kernel
theorem dX4_placeStops_48 : decode cX4_placeStops 48 = .ok (.if_icmp .ne 18, 3) := by decide +kernel
theorem dX4_placeStops_51 : decode cX4_placeStops 51 = .ok (.aload_n 0, 1) := by decide +kernel
theorem dX4_placeStops_52 : decode cX4_placeStops 52 = .ok (.getfield 21, 3) := by decide +kernel
theorem dX4_placeStops_55 : decode cX4_placeStops 55 = .ok (.iload_n 1, 1) := by decide +kernel
theorem dX4_placeStops_56 : decode cX4_placeStops 56 = .ok (.bipush 7, 2) := by decide +kernel
theorem dX4_placeStops_58 : decode cX4_placeStops 58 = .ok (.imul, 1) := by decide +kernel
theorem dX4_placeStops_59 : decode cX4_placeStops 59 = .ok (.iload_n 2, 1) := by decide +kernel
theorem dX4_placeStops_60 : decode cX4_placeStops 60 = .ok (.iadd, 1) := by decide +kernel
theorem dX4_placeStops_61 : decode cX4_placeStops 61 = .ok (.iload_n 3, 1) := by decide +kernel
theorem dX4_placeStops_62 : decode cX4_placeStops 62 = .ok (.iastore, 1) := by decide +kernel
theorem dX4_placeStops_63 : decode cX4_placeStops 63 = .ok (.iinc 2 1, 3) := by decide +kernel
theorem dX4_placeStops_66 : decode cX4_placeStops 66 = .ok (.iinc 3 1, 3) := by decide +kernel
theorem dX4_placeStops_69 : decode cX4_placeStops 69 = .ok (.goto (-65), 3) := by decide +kernel
theorem dX4_placeStops_72 : decode cX4_placeStops 72 = .ok (.return_, 1) := by decide +kernel
theorem dX4_firstRow_0 : decode cX4_firstRow 0 = .ok (.aload_n 0, 1) := by decide +kernel
theorem dX4_firstRow_1 : decode cX4_firstRow 1 = .ok (.getfield 21, 3) := by decide +kernel
theorem dX4_firstRow_4 : decode cX4_firstRow 4 = .ok (.iload_n 1, 1) := by decide +kernel
theorem dX4_firstRow_5 : decode cX4_firstRow 5 = .ok (.bipush 7, 2) := by decide +kernel
theorem dX4_firstRow_7 : decode cX4_firstRow 7 = .ok (.imul, 1) := by decide +kernel
theorem dX4_firstRow_8 : decode cX4_firstRow 8 = .ok (.iaload, 1) := by decide +kernel
theorem dX4_firstRow_9 : decode cX4_firstRow 9 = .ok (.ireturn, 1) := by decide +kernel
theorem dX4_lastRow_0 : decode cX4_lastRow 0 = .ok (.aload_n 0, 1) := by decide +kernel
theorem dX4_lastRow_1 : decode cX4_lastRow 1 = .ok (.getfield 21, 3) := by decide +kernel
theorem dX4_lastRow_4 : decode cX4_lastRow 4 = .ok (.iload_n 1, 1) := by decide +kernel
theorem dX4_lastRow_5 : decode cX4_lastRow 5 = .ok (.bipush 7, 2) := by decide +kernel
theorem dX4_lastRow_7 : decode cX4_lastRow 7 = .ok (.imul, 1) := by decide +kernel
theorem dX4_lastRow_8 : decode cX4_lastRow 8 = .ok (.aload_n 0, 1) := by decide +kernel
theorem dX4_lastRow_9 : decode cX4_lastRow 9 = .ok (.getfield 11, 3) := by decide +kernel
theorem dX4_lastRow_12 : decode cX4_lastRow 12 = .ok (.iload_n 1, 1) := by decide +kernel
theorem dX4_lastRow_13 : decode cX4_lastRow 13 = .ok (.aaload, 1) := by decide +kernel
theorem dX4_lastRow_14 : decode cX4_lastRow 14 = .ok (.getfield 83, 3) := by decide +kernel
theorem dX4_lastRow_17 : decode cX4_lastRow 17 = .ok (.iadd, 1) := by decide +kernel
theorem dX4_lastRow_18 : decode cX4_lastRow 18 = .ok (.iconst 1, 1) := by decide +kernel
theorem dX4_lastRow_19 : decode cX4_lastRow 19 = .ok (.isub, 1) := by decide +kernel
theorem dX4_lastRow_20 : decode cX4_lastRow 20 = .ok (.iaload, 1) := by decide +kernel
theorem dX4_lastRow_21 : decode cX4_lastRow 21 = .ok (.ireturn, 1) := by decide +kernel
theorem dX4_planLanes_0 : decode cX4_planLanes 0 = .ok (.aload_n 0, 1) := by decide +kernel
theorem dX4_planLanes_1 : decode cX4_planLanes 1 = .ok (.getfield 41, 3) := by decide +kernel
theorem dX4_planLanes_4 : decode cX4_planLanes 4 = .ok (.invokevirtual 115, 3) := by decide +kernel
theorem dX4_planLanes_7 : decode cX4_planLanes 7 = .ok (.iconst 0, 1) := by decide +kernel
theorem dX4_planLanes_8 : decode cX4_planLanes 8 = .ok (.istore_n 1, 1) := by decide +kernel
theorem dX4_planLanes_9 : decode cX4_planLanes 9 = .ok (.iload_n 1, 1) := by decide +kernel
theorem dX4_planLanes_10 : decode cX4_planLanes 10 = .ok (.aload_n 0, 1) := by decide +kernel
theorem dX4_planLanes_11 : decode cX4_planLanes 11 = .ok (.getfield 27, 3) := by decide +kernel
theorem dX4_planLanes_14 : decode cX4_planLanes 14 = .ok (.getfield 67, 3) := by decide +kernel
theorem dX4_planLanes_17 : decode cX4_planLanes 17 = .ok (.if_icmp .ge 48, 3) := by decide +kernel
theorem dX4_planLanes_20 : decode cX4_planLanes 20 = .ok (.iconst 0, 1) := by decide +kernel
theorem dX4_planLanes_21 : decode cX4_planLanes 21 = .ok (.istore_n 2, 1) := by decide +kernel
theorem dX4_planLanes_22 : decode cX4_planLanes 22 = .ok (.iload_n 2, 1) := by decide +kernel
theorem dX4_planLanes_23 : decode cX4_planLanes 23 = .ok (.aload_n 0, 1) := by decide +kernel
theorem dX4_planLanes_24 : decode cX4_planLanes 24 = .ok (.getfield 50, 3) := by decide +kernel
theorem dX4_planLanes_27 : decode cX4_planLanes 27 = .ok (.if_icmp .ge 32, 3) := by decide +kernel
theorem dX4_planLanes_30 : decode cX4_planLanes 30 = .ok (.aload_n 0, 1) := by decide +kernel
theorem dX4_planLanes_31 : decode cX4_planLanes 31 = .ok (.iload_n 2, 1) := by decide +kernel
theorem dX4_planLanes_32 : decode cX4_planLanes 32 = .ok (.invokevirtual 76, 3) := by decide +kernel
theorem dX4_planLanes_35 : decode cX4_planLanes 35 = .ok (.iload_n 1, 1) := by decide +kernel
theorem dX4_planLanes_36 : decode cX4_planLanes 36 = .ok (.if_icmp .ne 17, 3) := by decide +kernel
theorem dX4_planLanes_39 : decode cX4_planLanes 39 = .ok (.aload_n 0, 1) := by decide +kernel
theorem dX4_planLanes_40 : decode cX4_planLanes 40 = .ok (.getfield 41, 3) := by decide +kernel
theorem dX4_planLanes_43 : decode cX4_planLanes 43 = .ok (.iload_n 2, 1) := by decide +kernel
theorem dX4_planLanes_44 : decode cX4_planLanes 44 = .ok (.iload_n 1, 1) := by decide +kernel
theorem dX4_planLanes_45 : decode cX4_planLanes 45 = .ok (.aload_n 0, 1) := by decide +kernel
theorem dX4_planLanes_46 : decode cX4_planLanes 46 = .ok (.iload_n 2, 1) := by decide +kernel
theorem dX4_planLanes_47 : decode cX4_planLanes 47 = .ok (.invokevirtual 80, 3) := by decide +kernel
theorem dX4_planLanes_50 : decode cX4_planLanes 50 = .ok (.invokevirtual 118, 3) := by decide +kernel
theorem dX4_planLanes_53 : decode cX4_planLanes 53 = .ok (.iinc 2 1, 3) := by decide +kernel
theorem dX4_planLanes_56 : decode cX4_planLanes 56 = .ok (.goto (-34), 3) := by decide +kernel
theorem dX4_planLanes_59 : decode cX4_planLanes 59 = .ok (.iinc 1 1, 3) := by decide +kernel
theorem dX4_planLanes_62 : decode cX4_planLanes 62 = .ok (.goto (-53), 3) := by decide +kernel
theorem dX4_planLanes_65 : decode cX4_planLanes 65 = .ok (.return_, 1) := by decide +kernel
theorem dX5_init_0 : decode cX5_init 0 = .ok (.aload_n 0, 1) := by decide +kernel
theorem dX5_init_1 : decode cX5_init 1 = .ok (.invokespecial 3, 3) := by decide +kernel
theorem dX5_init_4 : decode cX5_init 4 = .ok (.aload_n 0, 1) := by decide +kernel
theorem dX5_init_5 : decode cX5_init 5 = .ok (.bipush 7, 2) := by decide +kernel
theorem dX5_init_7 : decode cX5_init 7 = .ok (.newarray .int, 2) := by decide +kernel
theorem dX5_init_9 : decode cX5_init 9 = .ok (.putfield 9, 3) := by decide +kernel
theorem dX5_init_12 : decode cX5_init 12 = .ok (.aload_n 0, 1) := by decide +kernel
theorem dX5_init_13 : decode cX5_init 13 = .ok (.bipush 7, 2) := by decide +kernel
theorem dX5_init_15 : decode cX5_init 15 = .ok (.newarray .int, 2) := by decide +kernel
theorem dX5_init_17 : decode cX5_init 17 = .ok (.putfield 15, 3) := by decide +kernel
theorem dX5_init_20 : decode cX5_init 20 = .ok (.aload_n 0, 1) := by decide +kernel
theorem dX5_init_21 : decode cX5_init 21 = .ok (.bipush 7, 2) := by decide +kernel
theorem dX5_init_23 : decode cX5_init 23 = .ok (.newarray .int, 2) := by decide +kernel
theorem dX5_init_25 : decode cX5_init 25 = .ok (.putfield 18, 3) := by decide +kernel
theorem dX5_init_28 : decode cX5_init 28 = .ok (.aload_n 0, 1) := by decide +kernel
theorem dX5_init_29 : decode cX5_init 29 = .ok (.bipush 12, 2) := by decide +kernel
theorem dX5_init_31 : decode cX5_init 31 = .ok (.newarray .int, 2) := by decide +kernel
theorem dX5_init_33 : decode cX5_init 33 = .ok (.putfield 21, 3) := by decide +kernel
theorem dX5_init_36 : decode cX5_init 36 = .ok (.aload_n 0, 1) := by decide +kernel
theorem dX5_init_37 : decode cX5_init 37 = .ok (.getfield 21, 3) := by decide +kernel
theorem dX5_init_40 : decode cX5_init 40 = .ok (.iconst (-1), 1) := by decide +kernel
theorem dX5_init_41 : decode cX5_init 41 = .ok (.invokestatic 24, 3) := by decide +kernel
theorem dX5_init_44 : decode cX5_init 44 = .ok (.return_, 1) := by decide +kernel
theorem dX5_takes_0 : decode cX5_takes 0 = .ok (.aload_n 0, 1) := by decide +kernel
theorem dX5_takes_1 : decode cX5_takes 1 = .ok (.getfield 30, 3) := by decide +kernel
theorem dX5_takes_4 : decode cX5_takes 4 = .ok (.bipush 7, 2) := by decide +kernel
theorem dX5_takes_6 : decode cX5_takes 6 = .ok (.if_icmp .ge 13, 3) := by decide +kernel
theorem dX5_takes_9 : decode cX5_takes 9 = .ok (.aload_n 0, 1) := by decide +kernel
theorem dX5_takes_10 : decode cX5_takes 10 = .ok (.getfield 21, 3) := by decide +kernel
theorem dX5_takes_13 : decode cX5_takes 13 = .ok (.iload_n 1, 1) := by decide +kernel
theorem dX5_takes_14 : decode cX5_takes 14 = .ok (.iaload, 1) := by decide +kernel
theorem dX5_takes_15 : decode cX5_takes 15 = .ok (.iconst (-1), 1) := by decide +kernel
theorem dX5_takes_16 : decode cX5_takes 16 = .ok (.if_icmp .eq 5, 3) := by decide +kernel
theorem dX5_takes_19 : decode cX5_takes 19 = .ok (.iconst 0, 1) := by decide +kernel
theorem dX5_takes_20 : decode cX5_takes 20 = .ok (.ireturn, 1) := by decide +kernel
theorem dX5_takes_21 : decode cX5_takes 21 = .ok (.iload_n 2, 1) := by decide +kernel
theorem dX5_takes_22 : decode cX5_takes 22 = .ok (.ifCond .lt 15, 3) := by decide +kernel
theorem dX5_takes_25 : decode cX5_takes 25 = .ok (.iload_n 3, 1) := by decide +kernel
theorem dX5_takes_26 : decode cX5_takes 26 = .ok (.iload_n 2, 1) := by decide +kernel
theorem dX5_takes_27 : decode cX5_takes 27 = .ok (.if_icmp .lt 10, 3) := by decide +kernel
theorem dX5_takes_30 : decode cX5_takes 30 = .ok (.iload_n 3, 1) := by decide +kernel
theorem dX5_takes_31 : decode cX5_takes 31 = .ok (.sipush 1440, 3) := by decide +kernel
theorem dX5_takes_34 : decode cX5_takes 34 = .ok (.if_icmp .lt 5, 3) := by decide +kernel
theorem dX5_takes_37 : decode cX5_takes 37 = .ok (.iconst 0, 1) := by decide +kernel
theorem dX5_takes_38 : decode cX5_takes 38 = .ok (.ireturn, 1) := by decide +kernel
theorem dX5_takes_39 : decode cX5_takes 39 = .ok (.aload_n 0, 1) := by decide +kernel
theorem dX5_takes_40 : decode cX5_takes 40 = .ok (.getfield 30, 3) := by decide +kernel
theorem dX5_takes_43 : decode cX5_takes 43 = .ok (.ifCond .eq 18, 3) := by decide +kernel
theorem dX5_takes_46 : decode cX5_takes 46 = .ok (.iload_n 2, 1) := by decide +kernel
theorem dX5_takes_47 : decode cX5_takes 47 = .ok (.aload_n 0, 1) := by decide +kernel
theorem dX5_takes_48 : decode cX5_takes 48 = .ok (.getfield 18, 3) := by decide +kernel
theorem dX5_takes_51 : decode cX5_takes 51 = .ok (.aload_n 0, 1) := by decide +kernel
theorem dX5_takes_52 : decode cX5_takes 52 = .ok (.getfield 30, 3) := by decide +kernel
theorem dX5_takes_55 : decode cX5_takes 55 = .ok (.iconst 1, 1) := by decide +kernel
theorem dX5_takes_56 : decode cX5_takes 56 = .ok (.isub, 1) := by decide +kernel
theorem dX5_takes_57 : decode cX5_takes 57 = .ok (.iaload, 1) := by decide +kernel
theorem dX5_takes_58 : decode cX5_takes 58 = .ok (.if_icmp .le 7, 3) := by decide +kernel
theorem dX5_takes_61 : decode cX5_takes 61 = .ok (.iconst 1, 1) := by decide +kernel
theorem dX5_takes_62 : decode cX5_takes 62 = .ok (.goto 4, 3) := by decide +kernel
theorem dX5_takes_65 : decode cX5_takes 65 = .ok (.iconst 0, 1) := by decide +kernel
theorem dX5_takes_66 : decode cX5_takes 66 = .ok (.ireturn, 1) := by decide +kernel
theorem dX5_add_0 : decode cX5_add 0 = .ok (.aload_n 0, 1) := by decide +kernel
theorem dX5_add_1 : decode cX5_add 1 = .ok (.getfield 9, 3) := by decide +kernel
theorem dX5_add_4 : decode cX5_add 4 = .ok (.aload_n 0, 1) := by decide +kernel
theorem dX5_add_5 : decode cX5_add 5 = .ok (.getfield 30, 3) := by decide +kernel
theorem dX5_add_8 : decode cX5_add 8 = .ok (.iload_n 1, 1) := by decide +kernel
theorem dX5_add_9 : decode cX5_add 9 = .ok (.iastore, 1) := by decide +kernel
theorem dX5_add_10 : decode cX5_add 10 = .ok (.aload_n 0, 1) := by decide +kernel
theorem dX5_add_11 : decode cX5_add 11 = .ok (.getfield 15, 3) := by decide +kernel
theorem dX5_add_14 : decode cX5_add 14 = .ok (.aload_n 0, 1) := by decide +kernel
theorem dX5_add_15 : decode cX5_add 15 = .ok (.getfield 30, 3) := by decide +kernel
theorem dX5_add_18 : decode cX5_add 18 = .ok (.iload_n 2, 1) := by decide +kernel
theorem dX5_add_19 : decode cX5_add 19 = .ok (.iastore, 1) := by decide +kernel
theorem dX5_add_20 : decode cX5_add 20 = .ok (.aload_n 0, 1) := by decide +kernel
theorem dX5_add_21 : decode cX5_add 21 = .ok (.getfield 18, 3) := by decide +kernel
theorem dX5_add_24 : decode cX5_add 24 = .ok (.aload_n 0, 1) := by decide +kernel
theorem dX5_add_25 : decode cX5_add 25 = .ok (.getfield 30, 3) := by decide +kernel
theorem dX5_add_28 : decode cX5_add 28 = .ok (.iload_n 3, 1) := by decide +kernel
theorem dX5_add_29 : decode cX5_add 29 = .ok (.iastore, 1) := by decide +kernel
theorem dX5_add_30 : decode cX5_add 30 = .ok (.aload_n 0, 1) := by decide +kernel
theorem dX5_add_31 : decode cX5_add 31 = .ok (.getfield 21, 3) := by decide +kernel
theorem dX5_add_34 : decode cX5_add 34 = .ok (.iload_n 1, 1) := by decide +kernel
theorem dX5_add_35 : decode cX5_add 35 = .ok (.aload_n 0, 1) := by decide +kernel
theorem dX5_add_36 : decode cX5_add 36 = .ok (.getfield 30, 3) := by decide +kernel
theorem dX5_add_39 : decode cX5_add 39 = .ok (.iastore, 1) := by decide +kernel
theorem dX5_add_40 : decode cX5_add 40 = .ok (.aload_n 0, 1) := by decide +kernel
theorem dX5_add_41 : decode cX5_add 41 = .ok (.dup, 1) := by decide +kernel
theorem dX5_add_42 : decode cX5_add 42 = .ok (.getfield 30, 3) := by decide +kernel
theorem dX5_add_45 : decode cX5_add 45 = .ok (.iconst 1, 1) := by decide +kernel
theorem dX5_add_46 : decode cX5_add 46 = .ok (.iadd, 1) := by decide +kernel
theorem dX5_add_47 : decode cX5_add 47 = .ok (.putfield 30, 3) := by decide +kernel
theorem dX5_add_50 : decode cX5_add 50 = .ok (.return_, 1) := by decide +kernel
theorem dX5_dropLast_0 : decode cX5_dropLast 0 = .ok (.aload_n 0, 1) := by decide +kernel
theorem dX5_dropLast_1 : decode cX5_dropLast 1 = .ok (.dup, 1) := by decide +kernel
theorem dX5_dropLast_2 : decode cX5_dropLast 2 = .ok (.getfield 30, 3) := by decide +kernel
theorem dX5_dropLast_5 : decode cX5_dropLast 5 = .ok (.iconst 1, 1) := by decide +kernel
theorem dX5_dropLast_6 : decode cX5_dropLast 6 = .ok (.isub, 1) := by decide +kernel
theorem dX5_dropLast_7 : decode cX5_dropLast 7 = .ok (.putfield 30, 3) := by decide +kernel
theorem dX5_dropLast_10 : decode cX5_dropLast 10 = .ok (.aload_n 0, 1) := by decide +kernel
theorem dX5_dropLast_11 : decode cX5_dropLast 11 = .ok (.getfield 21, 3) := by decide +kernel
theorem dX5_dropLast_14 : decode cX5_dropLast 14 = .ok (.aload_n 0, 1) := by decide +kernel
theorem dX5_dropLast_15 : decode cX5_dropLast 15 = .ok (.getfield 9, 3) := by decide +kernel
theorem dX5_dropLast_18 : decode cX5_dropLast 18 = .ok (.aload_n 0, 1) := by decide +kernel
theorem dX5_dropLast_19 : decode cX5_dropLast 19 = .ok (.getfield 30, 3) := by decide +kernel
theorem dX5_dropLast_22 : decode cX5_dropLast 22 = .ok (.iaload, 1) := by decide +kernel
theorem dX5_dropLast_23 : decode cX5_dropLast 23 = .ok (.iconst (-1), 1) := by decide +kernel
theorem dX5_dropLast_24 : decode cX5_dropLast 24 = .ok (.iastore, 1) := by decide +kernel
theorem dX5_dropLast_25 : decode cX5_dropLast 25 = .ok (.return_, 1) := by decide +kernel
theorem dX5_staysInDay_0 : decode cX5_staysInDay 0 = .ok (.aload_n 0, 1) := by decide +kernel
theorem dX5_staysInDay_1 : decode cX5_staysInDay 1 = .ok (.getfield 30, 3) := by decide +kernel
theorem dX5_staysInDay_4 : decode cX5_staysInDay 4 = .ok (.ifCond .ne 5, 3) := by decide +kernel
theorem dX5_staysInDay_7 : decode cX5_staysInDay 7 = .ok (.iconst 1, 1) := by decide +kernel
theorem dX5_staysInDay_8 : decode cX5_staysInDay 8 = .ok (.ireturn, 1) := by decide +kernel
theorem dX5_staysInDay_9 : decode cX5_staysInDay 9 = .ok (.aload_n 0, 1) := by decide +kernel
theorem dX5_staysInDay_10 : decode cX5_staysInDay 10 = .ok (.getfield 15, 3) := by decide +kernel
theorem dX5_staysInDay_13 : decode cX5_staysInDay 13 = .ok (.iconst 0, 1) := by decide +kernel
theorem dX5_staysInDay_14 : decode cX5_staysInDay 14 = .ok (.iaload, 1) := by decide +kernel
theorem dX5_staysInDay_15 : decode cX5_staysInDay 15 = .ok (.i2l, 1) := by decide +kernel
theorem dX5_staysInDay_16 : decode cX5_staysInDay 16 = .ok (.iload_n 1, 1) := by decide +kernel
theorem dX5_staysInDay_17 : decode cX5_staysInDay 17 = .ok (.i2l, 1) := by decide +kernel
theorem dX5_staysInDay_18 : decode cX5_staysInDay 18 = .ok (.ladd, 1) := by decide +kernel
theorem dX5_staysInDay_19 : decode cX5_staysInDay 19 = .ok (.lstore_n 2, 1) := by decide +kernel
theorem dX5_staysInDay_20 : decode cX5_staysInDay 20 = .ok (.aload_n 0, 1) := by decide +kernel
theorem dX5_staysInDay_21 : decode cX5_staysInDay 21 = .ok (.getfield 18, 3) := by decide +kernel
theorem dX5_staysInDay_24 : decode cX5_staysInDay 24 = .ok (.aload_n 0, 1) := by decide +kernel
theorem dX5_staysInDay_25 : decode cX5_staysInDay 25 = .ok (.getfield 30, 3) := by decide +kernel
theorem dX5_staysInDay_28 : decode cX5_staysInDay 28 = .ok (.iconst 1, 1) := by decide +kernel
theorem dX5_staysInDay_29 : decode cX5_staysInDay 29 = .ok (.isub, 1) := by decide +kernel
theorem dX5_staysInDay_30 : decode cX5_staysInDay 30 = .ok (.iaload, 1) := by decide +kernel
theorem dX5_staysInDay_31 : decode cX5_staysInDay 31 = .ok (.i2l, 1) := by decide +kernel
theorem dX5_staysInDay_32 : decode cX5_staysInDay 32 = .ok (.iload_n 1, 1) := by decide +kernel
theorem dX5_staysInDay_33 : decode cX5_staysInDay 33 = .ok (.i2l, 1) := by decide +kernel
theorem dX5_staysInDay_34 : decode cX5_staysInDay 34 = .ok (.ladd, 1) := by decide +kernel
theorem dX5_staysInDay_35 : decode cX5_staysInDay 35 = .ok (.lstore 4, 2) := by decide +kernel
theorem dX5_staysInDay_37 : decode cX5_staysInDay 37 = .ok (.lload_n 2, 1) := by decide +kernel
theorem dX5_staysInDay_38 : decode cX5_staysInDay 38 = .ok (.lconst 0, 1) := by decide +kernel
theorem dX5_staysInDay_39 : decode cX5_staysInDay 39 = .ok (.lcmp, 1) := by decide +kernel
theorem dX5_staysInDay_40 : decode cX5_staysInDay 40 = .ok (.ifCond .lt 16, 3) := by decide +kernel
theorem dX5_staysInDay_43 : decode cX5_staysInDay 43 = .ok (.lload 4, 2) := by decide +kernel
theorem dX5_staysInDay_45 : decode cX5_staysInDay 45 = .ok (.ldc2_w 34, 3) := by decide +kernel
theorem dX5_staysInDay_48 : decode cX5_staysInDay 48 = .ok (.lcmp, 1) := by decide +kernel
theorem dX5_staysInDay_49 : decode cX5_staysInDay 49 = .ok (.ifCond .ge 7, 3) := by decide +kernel
theorem dX5_staysInDay_52 : decode cX5_staysInDay 52 = .ok (.iconst 1, 1) := by decide +kernel
theorem dX5_staysInDay_53 : decode cX5_staysInDay 53 = .ok (.goto 4, 3) := by decide +kernel
theorem dX5_staysInDay_56 : decode cX5_staysInDay 56 = .ok (.iconst 0, 1) := by decide +kernel
theorem dX5_staysInDay_57 : decode cX5_staysInDay 57 = .ok (.ireturn, 1) := by decide +kernel
theorem dX5_move_0 : decode cX5_move 0 = .ok (.iconst 0, 1) := by decide +kernel
theorem dX5_move_1 : decode cX5_move 1 = .ok (.istore_n 2, 1) := by decide +kernel
theorem dX5_move_2 : decode cX5_move 2 = .ok (.iload_n 2, 1) := by decide +kernel
theorem dX5_move_3 : decode cX5_move 3 = .ok (.aload_n 0, 1) := by decide +kernel
theorem dX5_move_4 : decode cX5_move 4 = .ok (.getfield 30, 3) := by decide +kernel
theorem dX5_move_7 : decode cX5_move 7 = .ok (.if_icmp .ge 29, 3) := by decide +kernel
theorem dX5_move_10 : decode cX5_move 10 = .ok (.aload_n 0, 1) := by decide +kernel
theorem dX5_move_11 : decode cX5_move 11 = .ok (.getfield 15, 3) := by decide +kernel
theorem dX5_move_14 : decode cX5_move 14 = .ok (.iload_n 2, 1) := by decide +kernel
theorem dX5_move_15 : decode cX5_move 15 = .ok (.dup2, 1) := by decide +kernel
theorem dX5_move_16 : decode cX5_move 16 = .ok (.iaload, 1) := by decide +kernel
theorem dX5_move_17 : decode cX5_move 17 = .ok (.iload_n 1, 1) := by decide +kernel
theorem dX5_move_18 : decode cX5_move 18 = .ok (.iadd, 1) := by decide +kernel
theorem dX5_move_19 : decode cX5_move 19 = .ok (.iastore, 1) := by decide +kernel
theorem dX5_move_20 : decode cX5_move 20 = .ok (.aload_n 0, 1) := by decide +kernel
theorem dX5_move_21 : decode cX5_move 21 = .ok (.getfield 18, 3) := by decide +kernel
theorem dX5_move_24 : decode cX5_move 24 = .ok (.iload_n 2, 1) := by decide +kernel
theorem dX5_move_25 : decode cX5_move 25 = .ok (.dup2, 1) := by decide +kernel
theorem dX5_move_26 : decode cX5_move 26 = .ok (.iaload, 1) := by decide +kernel
theorem dX5_move_27 : decode cX5_move 27 = .ok (.iload_n 1, 1) := by decide +kernel
theorem dX5_move_28 : decode cX5_move 28 = .ok (.iadd, 1) := by decide +kernel
theorem dX5_move_29 : decode cX5_move 29 = .ok (.iastore, 1) := by decide +kernel
theorem dX5_move_30 : decode cX5_move 30 = .ok (.iinc 2 1, 3) := by decide +kernel
theorem dX5_move_33 : decode cX5_move 33 = .ok (.goto (-31), 3) := by decide +kernel
theorem dX5_move_36 : decode cX5_move 36 = .ok (.return_, 1) := by decide +kernel
theorem dX5_runsOn_0 : decode cX5_runsOn 0 = .ok (.aload_n 0, 1) := by decide +kernel
theorem dX5_runsOn_1 : decode cX5_runsOn 1 = .ok (.getfield 36, 3) := by decide +kernel
theorem dX5_runsOn_4 : decode cX5_runsOn 4 = .ok (.iload_n 1, 1) := by decide +kernel
theorem dX5_runsOn_5 : decode cX5_runsOn 5 = .ok (.ishr, 1) := by decide +kernel
theorem dX5_runsOn_6 : decode cX5_runsOn 6 = .ok (.iconst 1, 1) := by decide +kernel
theorem dX5_runsOn_7 : decode cX5_runsOn 7 = .ok (.iand, 1) := by decide +kernel
theorem dX5_runsOn_8 : decode cX5_runsOn 8 = .ok (.ifCond .eq 7, 3) := by decide +kernel
theorem dX5_runsOn_11 : decode cX5_runsOn 11 = .ok (.iconst 1, 1) := by decide +kernel
theorem dX5_runsOn_12 : decode cX5_runsOn 12 = .ok (.goto 4, 3) := by decide +kernel
theorem dX5_runsOn_15 : decode cX5_runsOn 15 = .ok (.iconst 0, 1) := by decide +kernel
theorem dX5_runsOn_16 : decode cX5_runsOn 16 = .ok (.ireturn, 1) := by decide +kernel
theorem dX5_read_0 : decode cX5_read 0 = .ok (.iload_n 1, 1) := by decide +kernel
theorem dX5_read_1 : decode cX5_read 1 = .ok (.ifCond .ne 8, 3) := by decide +kernel
theorem dX5_read_4 : decode cX5_read 4 = .ok (.aload_n 0, 1) := by decide +kernel
theorem dX5_read_5 : decode cX5_read 5 = .ok (.getfield 36, 3) := by decide +kernel
theorem dX5_read_8 : decode cX5_read 8 = .ok (.ireturn, 1) := by decide +kernel
theorem dX5_read_9 : decode cX5_read 9 = .ok (.iload_n 1, 1) := by decide +kernel
theorem dX5_read_10 : decode cX5_read 10 = .ok (.iconst 1, 1) := by decide +kernel
theorem dX5_read_11 : decode cX5_read 11 = .ok (.if_icmp .ne 8, 3) := by decide +kernel
theorem dX5_read_14 : decode cX5_read 14 = .ok (.aload_n 0, 1) := by decide +kernel
theorem dX5_read_15 : decode cX5_read 15 = .ok (.getfield 30, 3) := by decide +kernel
theorem dX5_read_18 : decode cX5_read 18 = .ok (.ireturn, 1) := by decide +kernel
theorem dX5_read_19 : decode cX5_read 19 = .ok (.iload_n 1, 1) := by decide +kernel
theorem dX5_read_20 : decode cX5_read 20 = .ok (.bipush 10, 2) := by decide +kernel
theorem dX5_read_22 : decode cX5_read 22 = .ok (.idiv, 1) := by decide +kernel
theorem dX5_read_23 : decode cX5_read 23 = .ok (.iconst 1, 1) := by decide +kernel
theorem dX5_read_24 : decode cX5_read 24 = .ok (.isub, 1) := by decide +kernel
theorem dX5_read_25 : decode cX5_read 25 = .ok (.istore_n 2, 1) := by decide +kernel
theorem dX5_read_26 : decode cX5_read 26 = .ok (.iload_n 2, 1) := by decide +kernel
theorem dX5_read_27 : decode cX5_read 27 = .ok (.ifCond .lt 11, 3) := by decide +kernel
theorem dX5_read_30 : decode cX5_read 30 = .ok (.iload_n 2, 1) := by decide +kernel
theorem dX5_read_31 : decode cX5_read 31 = .ok (.aload_n 0, 1) := by decide +kernel
theorem dX5_read_32 : decode cX5_read 32 = .ok (.getfield 30, 3) := by decide +kernel
theorem dX5_read_35 : decode cX5_read 35 = .ok (.if_icmp .lt 5, 3) := by decide +kernel
theorem dX5_read_38 : decode cX5_read 38 = .ok (.iconst (-1), 1) := by decide +kernel
theorem dX5_read_39 : decode cX5_read 39 = .ok (.ireturn, 1) := by decide +kernel
theorem dX5_read_40 : decode cX5_read 40 = .ok (.iload_n 1, 1) := by decide +kernel
theorem dX5_read_41 : decode cX5_read 41 = .ok (.bipush 10, 2) := by decide +kernel
theorem dX5_read_43 : decode cX5_read 43 = .ok (.irem, 1) := by decide +kernel
theorem dX5_read_44 : decode cX5_read 44 = .ok (.tableswitch 49 0 2 #[28, 35, 42], 28) := by decide +kernel
theorem dX5_read_72 : decode cX5_read 72 = .ok (.aload_n 0, 1) := by decide +kernel
theorem dX5_read_73 : decode cX5_read 73 = .ok (.getfield 9, 3) := by decide +kernel
theorem dX5_read_76 : decode cX5_read 76 = .ok (.iload_n 2, 1) := by decide +kernel
theorem dX5_read_77 : decode cX5_read 77 = .ok (.iaload, 1) := by decide +kernel
theorem dX5_read_78 : decode cX5_read 78 = .ok (.ireturn, 1) := by decide +kernel
theorem dX5_read_79 : decode cX5_read 79 = .ok (.aload_n 0, 1) := by decide +kernel
theorem dX5_read_80 : decode cX5_read 80 = .ok (.getfield 15, 3) := by decide +kernel
theorem dX5_read_83 : decode cX5_read 83 = .ok (.iload_n 2, 1) := by decide +kernel
theorem dX5_read_84 : decode cX5_read 84 = .ok (.iaload, 1) := by decide +kernel
theorem dX5_read_85 : decode cX5_read 85 = .ok (.ireturn, 1) := by decide +kernel
theorem dX5_read_86 : decode cX5_read 86 = .ok (.aload_n 0, 1) := by decide +kernel
theorem dX5_read_87 : decode cX5_read 87 = .ok (.getfield 18, 3) := by decide +kernel
theorem dX5_read_90 : decode cX5_read 90 = .ok (.iload_n 2, 1) := by decide +kernel
theorem dX5_read_91 : decode cX5_read 91 = .ok (.iaload, 1) := by decide +kernel
theorem dX5_read_92 : decode cX5_read 92 = .ok (.ireturn, 1) := by decide +kernel
theorem dX5_read_93 : decode cX5_read 93 = .ok (.iconst (-1), 1) := by decide +kernel
theorem dX5_read_94 : decode cX5_read 94 = .ok (.ireturn, 1) := by decide +kernel
theorem dX5_leaves_0 : decode cX5_leaves 0 = .ok (.iload_n 1, 1) := by decide +kernel
theorem dX5_leaves_1 : decode cX5_leaves 1 = .ok (.aload_n 0, 1) := by decide +kernel
theorem dX5_leaves_2 : decode cX5_leaves 2 = .ok (.getfield 30, 3) := by decide +kernel
theorem dX5_leaves_5 : decode cX5_leaves 5 = .ok (.iconst 1, 1) := by decide +kernel
theorem dX5_leaves_6 : decode cX5_leaves 6 = .ok (.isub, 1) := by decide +kernel
theorem dX5_leaves_7 : decode cX5_leaves 7 = .ok (.if_icmp .ne 12, 3) := by decide +kernel
theorem dX5_leaves_10 : decode cX5_leaves 10 = .ok (.aload_n 0, 1) := by decide +kernel
theorem dX5_leaves_11 : decode cX5_leaves 11 = .ok (.getfield 15, 3) := by decide +kernel
theorem dX5_leaves_14 : decode cX5_leaves 14 = .ok (.iload_n 1, 1) := by decide +kernel
theorem dX5_leaves_15 : decode cX5_leaves 15 = .ok (.iaload, 1) := by decide +kernel
theorem dX5_leaves_16 : decode cX5_leaves 16 = .ok (.goto 9, 3) := by decide +kernel
theorem dX5_leaves_19 : decode cX5_leaves 19 = .ok (.aload_n 0, 1) := by decide +kernel
theorem dX5_leaves_20 : decode cX5_leaves 20 = .ok (.getfield 18, 3) := by decide +kernel
theorem dX5_leaves_23 : decode cX5_leaves 23 = .ok (.iload_n 1, 1) := by decide +kernel
theorem dX5_leaves_24 : decode cX5_leaves 24 = .ok (.iaload, 1) := by decide +kernel
theorem dX5_leaves_25 : decode cX5_leaves 25 = .ok (.ireturn, 1) := by decide +kernel
theorem dX5_isAheadSomewhere_0 : decode cX5_isAheadSomewhere 0 = .ok (.iconst 0, 1) := by decide +kernel
theorem dX5_isAheadSomewhere_1 : decode cX5_isAheadSomewhere 1 = .ok (.istore_n 2, 1) := by decide +kernel
theorem dX5_isAheadSomewhere_2 : decode cX5_isAheadSomewhere 2 = .ok (.iload_n 2, 1) := by decide +kernel
theorem dX5_isAheadSomewhere_3 : decode cX5_isAheadSomewhere 3 = .ok (.aload_n 0, 1) := by decide +kernel
theorem dX5_isAheadSomewhere_4 : decode cX5_isAheadSomewhere 4 = .ok (.getfield 30, 3) := by decide +kernel
theorem dX5_isAheadSomewhere_7 : decode cX5_isAheadSomewhere 7 = .ok (.if_icmp .ge 41, 3) := by decide +kernel
theorem dX5_isAheadSomewhere_10 : decode cX5_isAheadSomewhere 10 = .ok (.aload_n 1, 1) := by decide +kernel
theorem dX5_isAheadSomewhere_11 : decode cX5_isAheadSomewhere 11 = .ok (.getfield 21, 3) := by decide +kernel
theorem dX5_isAheadSomewhere_14 : decode cX5_isAheadSomewhere 14 = .ok (.aload_n 0, 1) := by decide +kernel
theorem dX5_isAheadSomewhere_15 : decode cX5_isAheadSomewhere 15 = .ok (.getfield 9, 3) := by decide +kernel
theorem dX5_isAheadSomewhere_18 : decode cX5_isAheadSomewhere 18 = .ok (.iload_n 2, 1) := by decide +kernel
theorem dX5_isAheadSomewhere_19 : decode cX5_isAheadSomewhere 19 = .ok (.iaload, 1) := by decide +kernel
theorem dX5_isAheadSomewhere_20 : decode cX5_isAheadSomewhere 20 = .ok (.iaload, 1) := by decide +kernel
theorem dX5_isAheadSomewhere_21 : decode cX5_isAheadSomewhere 21 = .ok (.istore_n 3, 1) := by decide +kernel
theorem dX5_isAheadSomewhere_22 : decode cX5_isAheadSomewhere 22 = .ok (.iload_n 3, 1) := by decide +kernel
theorem dX5_isAheadSomewhere_23 : decode cX5_isAheadSomewhere 23 = .ok (.iconst (-1), 1) := by decide +kernel
theorem dX5_isAheadSomewhere_24 : decode cX5_isAheadSomewhere 24 = .ok (.if_icmp .eq 18, 3) := by decide +kernel
theorem dX5_isAheadSomewhere_27 : decode cX5_isAheadSomewhere 27 = .ok (.aload_n 0, 1) := by decide +kernel
theorem dX5_isAheadSomewhere_28 : decode cX5_isAheadSomewhere 28 = .ok (.iload_n 2, 1) := by decide +kernel
theorem dX5_isAheadSomewhere_29 : decode cX5_isAheadSomewhere 29 = .ok (.invokevirtual 39, 3) := by decide +kernel
theorem dX5_isAheadSomewhere_32 : decode cX5_isAheadSomewhere 32 = .ok (.aload_n 1, 1) := by decide +kernel
theorem dX5_isAheadSomewhere_33 : decode cX5_isAheadSomewhere 33 = .ok (.iload_n 3, 1) := by decide +kernel
theorem dX5_isAheadSomewhere_34 : decode cX5_isAheadSomewhere 34 = .ok (.invokevirtual 39, 3) := by decide +kernel
theorem dX5_isAheadSomewhere_37 : decode cX5_isAheadSomewhere 37 = .ok (.if_icmp .ge 5, 3) := by decide +kernel
theorem dX5_isAheadSomewhere_40 : decode cX5_isAheadSomewhere 40 = .ok (.iconst 1, 1) := by decide +kernel
theorem dX5_isAheadSomewhere_41 : decode cX5_isAheadSomewhere 41 = .ok (.ireturn, 1) := by decide +kernel
theorem dX5_isAheadSomewhere_42 : decode cX5_isAheadSomewhere 42 = .ok (.iinc 2 1, 3) := by decide +kernel
theorem dX5_isAheadSomewhere_45 : decode cX5_isAheadSomewhere 45 = .ok (.goto (-43), 3) := by decide +kernel
theorem dX5_isAheadSomewhere_48 : decode cX5_isAheadSomewhere 48 = .ok (.iconst 0, 1) := by decide +kernel
theorem dX5_isAheadSomewhere_49 : decode cX5_isAheadSomewhere 49 = .ok (.ireturn, 1) := by decide +kernel
theorem dX5_copy_0 : decode cX5_copy 0 = .ok (.aload_n 0, 1) := by decide +kernel
theorem dX5_copy_1 : decode cX5_copy 1 = .ok (.aload_n 1, 1) := by decide +kernel
theorem dX5_copy_2 : decode cX5_copy 2 = .ok (.getfield 36, 3) := by decide +kernel
theorem dX5_copy_5 : decode cX5_copy 5 = .ok (.putfield 36, 3) := by decide +kernel
theorem dX5_copy_8 : decode cX5_copy 8 = .ok (.aload_n 0, 1) := by decide +kernel
theorem dX5_copy_9 : decode cX5_copy 9 = .ok (.aload_n 1, 1) := by decide +kernel
theorem dX5_copy_10 : decode cX5_copy 10 = .ok (.getfield 30, 3) := by decide +kernel
theorem dX5_copy_13 : decode cX5_copy 13 = .ok (.putfield 30, 3) := by decide +kernel
theorem dX5_copy_16 : decode cX5_copy 16 = .ok (.aload_n 1, 1) := by decide +kernel
theorem dX5_copy_17 : decode cX5_copy 17 = .ok (.getfield 9, 3) := by decide +kernel
theorem dX5_copy_20 : decode cX5_copy 20 = .ok (.iconst 0, 1) := by decide +kernel
theorem dX5_copy_21 : decode cX5_copy 21 = .ok (.aload_n 0, 1) := by decide +kernel
theorem dX5_copy_22 : decode cX5_copy 22 = .ok (.getfield 9, 3) := by decide +kernel
theorem dX5_copy_25 : decode cX5_copy 25 = .ok (.iconst 0, 1) := by decide +kernel
theorem dX5_copy_26 : decode cX5_copy 26 = .ok (.bipush 7, 2) := by decide +kernel
theorem dX5_copy_28 : decode cX5_copy 28 = .ok (.invokestatic 43, 3) := by decide +kernel
theorem dX5_copy_31 : decode cX5_copy 31 = .ok (.aload_n 1, 1) := by decide +kernel
theorem dX5_copy_32 : decode cX5_copy 32 = .ok (.getfield 15, 3) := by decide +kernel
theorem dX5_copy_35 : decode cX5_copy 35 = .ok (.iconst 0, 1) := by decide +kernel
theorem dX5_copy_36 : decode cX5_copy 36 = .ok (.aload_n 0, 1) := by decide +kernel
theorem dX5_copy_37 : decode cX5_copy 37 = .ok (.getfield 15, 3) := by decide +kernel
theorem dX5_copy_40 : decode cX5_copy 40 = .ok (.iconst 0, 1) := by decide +kernel
theorem dX5_copy_41 : decode cX5_copy 41 = .ok (.bipush 7, 2) := by decide +kernel
theorem dX5_copy_43 : decode cX5_copy 43 = .ok (.invokestatic 43, 3) := by decide +kernel
theorem dX5_copy_46 : decode cX5_copy 46 = .ok (.aload_n 1, 1) := by decide +kernel
theorem dX5_copy_47 : decode cX5_copy 47 = .ok (.getfield 18, 3) := by decide +kernel
theorem dX5_copy_50 : decode cX5_copy 50 = .ok (.iconst 0, 1) := by decide +kernel
theorem dX5_copy_51 : decode cX5_copy 51 = .ok (.aload_n 0, 1) := by decide +kernel
theorem dX5_copy_52 : decode cX5_copy 52 = .ok (.getfield 18, 3) := by decide +kernel
theorem dX5_copy_55 : decode cX5_copy 55 = .ok (.iconst 0, 1) := by decide +kernel
theorem dX5_copy_56 : decode cX5_copy 56 = .ok (.bipush 7, 2) := by decide +kernel
theorem dX5_copy_58 : decode cX5_copy 58 = .ok (.invokestatic 43, 3) := by decide +kernel
theorem dX5_copy_61 : decode cX5_copy 61 = .ok (.aload_n 1, 1) := by decide +kernel
theorem dX5_copy_62 : decode cX5_copy 62 = .ok (.getfield 21, 3) := by decide +kernel
theorem dX5_copy_65 : decode cX5_copy 65 = .ok (.iconst 0, 1) := by decide +kernel
theorem dX5_copy_66 : decode cX5_copy 66 = .ok (.aload_n 0, 1) := by decide +kernel
theorem dX5_copy_67 : decode cX5_copy 67 = .ok (.getfield 21, 3) := by decide +kernel
theorem dX5_copy_70 : decode cX5_copy 70 = .ok (.iconst 0, 1) := by decide +kernel
theorem dX5_copy_71 : decode cX5_copy 71 = .ok (.bipush 12, 2) := by decide +kernel
theorem dX5_copy_73 : decode cX5_copy 73 = .ok (.invokestatic 43, 3) := by decide +kernel
theorem dX5_copy_76 : decode cX5_copy 76 = .ok (.return_, 1) := by decide +kernel
theorem dX6_init_0 : decode cX6_init 0 = .ok (.aload_n 0, 1) := by decide +kernel
theorem dX6_init_1 : decode cX6_init 1 = .ok (.invokespecial 3, 3) := by decide +kernel
theorem dX6_init_4 : decode cX6_init 4 = .ok (.aload_n 0, 1) := by decide +kernel
theorem dX6_init_5 : decode cX6_init 5 = .ok (.iconst 0, 1) := by decide +kernel
theorem dX6_init_6 : decode cX6_init 6 = .ok (.anewarray 9, 3) := by decide +kernel
theorem dX6_init_9 : decode cX6_init 9 = .ok (.putfield 11, 3) := by decide +kernel
theorem dX6_init_12 : decode cX6_init 12 = .ok (.aload_n 0, 1) := by decide +kernel
theorem dX6_init_13 : decode cX6_init 13 = .ok (.bipush 12, 2) := by decide +kernel
theorem dX6_init_15 : decode cX6_init 15 = .ok (.newarray .int, 2) := by decide +kernel
theorem dX6_init_17 : decode cX6_init 17 = .ok (.putfield 17, 3) := by decide +kernel
theorem dX6_init_20 : decode cX6_init 20 = .ok (.aload_n 0, 1) := by decide +kernel
theorem dX6_init_21 : decode cX6_init 21 = .ok (.bipush 100, 2) := by decide +kernel
theorem dX6_init_23 : decode cX6_init 23 = .ok (.newarray .int, 2) := by decide +kernel
theorem dX6_init_25 : decode cX6_init 25 = .ok (.putfield 21, 3) := by decide +kernel
theorem dX6_init_28 : decode cX6_init 28 = .ok (.aload_n 0, 1) := by decide +kernel
theorem dX6_init_29 : decode cX6_init 29 = .ok (.bipush 10, 2) := by decide +kernel
theorem dX6_init_31 : decode cX6_init 31 = .ok (.newarray .int, 2) := by decide +kernel
theorem dX6_init_33 : decode cX6_init 33 = .ok (.putfield 24, 3) := by decide +kernel
theorem dX6_init_36 : decode cX6_init 36 = .ok (.aload_n 0, 1) := by decide +kernel
theorem dX6_init_37 : decode cX6_init 37 = .ok (.bipush 10, 2) := by decide +kernel
theorem dX6_init_39 : decode cX6_init 39 = .ok (.newarray .int, 2) := by decide +kernel
theorem dX6_init_41 : decode cX6_init 41 = .ok (.putfield 27, 3) := by decide +kernel
theorem dX6_init_44 : decode cX6_init 44 = .ok (.aload_n 0, 1) := by decide +kernel
theorem dX6_init_45 : decode cX6_init 45 = .ok (.bipush 10, 2) := by decide +kernel
theorem dX6_init_47 : decode cX6_init 47 = .ok (.newarray .int, 2) := by decide +kernel
theorem dX6_init_49 : decode cX6_init 49 = .ok (.putfield 30, 3) := by decide +kernel
theorem dX6_init_52 : decode cX6_init 52 = .ok (.aload_n 0, 1) := by decide +kernel
theorem dX6_init_53 : decode cX6_init 53 = .ok (.bipush 10, 2) := by decide +kernel
theorem dX6_init_55 : decode cX6_init 55 = .ok (.newarray .int, 2) := by decide +kernel
theorem dX6_init_57 : decode cX6_init 57 = .ok (.putfield 33, 3) := by decide +kernel
theorem dX6_init_60 : decode cX6_init 60 = .ok (.aload_n 0, 1) := by decide +kernel
theorem dX6_init_61 : decode cX6_init 61 = .ok (.bipush 10, 2) := by decide +kernel
theorem dX6_init_63 : decode cX6_init 63 = .ok (.newarray .int, 2) := by decide +kernel
theorem dX6_init_65 : decode cX6_init 65 = .ok (.putfield 36, 3) := by decide +kernel
theorem dX6_init_68 : decode cX6_init 68 = .ok (.aload_n 0, 1) := by decide +kernel
theorem dX6_init_69 : decode cX6_init 69 = .ok (.bipush 10, 2) := by decide +kernel
theorem dX6_init_71 : decode cX6_init 71 = .ok (.newarray .int, 2) := by decide +kernel
theorem dX6_init_73 : decode cX6_init 73 = .ok (.putfield 39, 3) := by decide +kernel
theorem dX6_init_76 : decode cX6_init 76 = .ok (.return_, 1) := by decide +kernel
theorem dX6_setOut_0 : decode cX6_setOut 0 = .ok (.aload_n 0, 1) := by decide +kernel
theorem dX6_setOut_1 : decode cX6_setOut 1 = .ok (.aload_n 1, 1) := by decide +kernel
theorem dX6_setOut_2 : decode cX6_setOut 2 = .ok (.putfield 11, 3) := by decide +kernel
theorem dX6_setOut_5 : decode cX6_setOut 5 = .ok (.aload_n 0, 1) := by decide +kernel
theorem dX6_setOut_6 : decode cX6_setOut 6 = .ok (.iload_n 2, 1) := by decide +kernel
theorem dX6_setOut_7 : decode cX6_setOut 7 = .ok (.putfield 42, 3) := by decide +kernel
theorem dX6_setOut_10 : decode cX6_setOut 10 = .ok (.aload_n 0, 1) := by decide +kernel
theorem dX6_setOut_11 : decode cX6_setOut 11 = .ok (.iload_n 3, 1) := by decide +kernel
theorem dX6_setOut_12 : decode cX6_setOut 12 = .ok (.putfield 46, 3) := by decide +kernel
theorem dX6_setOut_15 : decode cX6_setOut 15 = .ok (.aload_n 0, 1) := by decide +kernel
theorem dX6_setOut_16 : decode cX6_setOut 16 = .ok (.iload 4, 2) := by decide +kernel
theorem dX6_setOut_18 : decode cX6_setOut 18 = .ok (.putfield 49, 3) := by decide +kernel
theorem dX6_setOut_21 : decode cX6_setOut 21 = .ok (.return_, 1) := by decide +kernel
theorem dX6_findBest_0 : decode cX6_findBest 0 = .ok (.aload_n 0, 1) := by decide +kernel
theorem dX6_findBest_1 : decode cX6_findBest 1 = .ok (.aload_n 0, 1) := by decide +kernel
theorem dX6_findBest_2 : decode cX6_findBest 2 = .ok (.iload_n 1, 1) := by decide +kernel
theorem dX6_findBest_3 : decode cX6_findBest 3 = .ok (.iload_n 2, 1) := by decide +kernel
theorem dX6_findBest_4 : decode cX6_findBest 4 = .ok (.iload_n 3, 1) := by decide +kernel
theorem dX6_findBest_5 : decode cX6_findBest 5 = .ok (.invokevirtual 52, 3) := by decide +kernel
theorem dX6_findBest_8 : decode cX6_findBest 8 = .ok (.putfield 56, 3) := by decide +kernel
theorem dX6_findBest_11 : decode cX6_findBest 11 = .ok (.aload_n 0, 1) := by decide +kernel
theorem dX6_findBest_12 : decode cX6_findBest 12 = .ok (.getfield 56, 3) := by decide +kernel
theorem dX6_findBest_15 : decode cX6_findBest 15 = .ok (.ldc 59, 2) := by decide +kernel
theorem dX6_findBest_17 : decode cX6_findBest 17 = .ok (.if_icmp .ne 5, 3) := by decide +kernel
theorem dX6_findBest_20 : decode cX6_findBest 20 = .ok (.iconst 0, 1) := by decide +kernel
theorem dX6_findBest_21 : decode cX6_findBest 21 = .ok (.ireturn, 1) := by decide +kernel
theorem dX6_findBest_22 : decode cX6_findBest 22 = .ok (.aload_n 0, 1) := by decide +kernel
theorem dX6_findBest_23 : decode cX6_findBest 23 = .ok (.iload_n 1, 1) := by decide +kernel
theorem dX6_findBest_24 : decode cX6_findBest 24 = .ok (.iload_n 2, 1) := by decide +kernel
theorem dX6_findBest_25 : decode cX6_findBest 25 = .ok (.iload_n 3, 1) := by decide +kernel
theorem dX6_findBest_26 : decode cX6_findBest 26 = .ok (.invokevirtual 60, 3) := by decide +kernel
theorem dX6_findBest_29 : decode cX6_findBest 29 = .ok (.aload_n 0, 1) := by decide +kernel
theorem dX6_findBest_30 : decode cX6_findBest 30 = .ok (.iload_n 1, 1) := by decide +kernel
theorem dX6_findBest_31 : decode cX6_findBest 31 = .ok (.iload_n 3, 1) := by decide +kernel
theorem dX6_findBest_32 : decode cX6_findBest 32 = .ok (.invokevirtual 64, 3) := by decide +kernel
theorem dX6_findBest_35 : decode cX6_findBest 35 = .ok (.aload_n 0, 1) := by decide +kernel
theorem dX6_findBest_36 : decode cX6_findBest 36 = .ok (.iload_n 1, 1) := by decide +kernel
theorem dX6_findBest_37 : decode cX6_findBest 37 = .ok (.iload_n 2, 1) := by decide +kernel
theorem dX6_findBest_38 : decode cX6_findBest 38 = .ok (.invokevirtual 68, 3) := by decide +kernel
theorem dX6_findBest_41 : decode cX6_findBest 41 = .ok (.iconst 1, 1) := by decide +kernel
theorem dX6_findBest_42 : decode cX6_findBest 42 = .ok (.ireturn, 1) := by decide +kernel
theorem dX6_read_0 : decode cX6_read 0 = .ok (.iload_n 1, 1) := by decide +kernel
theorem dX6_read_1 : decode cX6_read 1 = .ok (.ifCond .ne 8, 3) := by decide +kernel
theorem dX6_read_4 : decode cX6_read 4 = .ok (.aload_n 0, 1) := by decide +kernel
theorem dX6_read_5 : decode cX6_read 5 = .ok (.getfield 56, 3) := by decide +kernel
theorem dX6_read_8 : decode cX6_read 8 = .ok (.ireturn, 1) := by decide +kernel
theorem dX6_read_9 : decode cX6_read 9 = .ok (.iload_n 1, 1) := by decide +kernel
theorem dX6_read_10 : decode cX6_read 10 = .ok (.iconst 1, 1) := by decide +kernel
theorem dX6_read_11 : decode cX6_read 11 = .ok (.if_icmp .ne 8, 3) := by decide +kernel
theorem dX6_read_14 : decode cX6_read 14 = .ok (.aload_n 0, 1) := by decide +kernel
theorem dX6_read_15 : decode cX6_read 15 = .ok (.getfield 71, 3) := by decide +kernel
theorem dX6_read_18 : decode cX6_read 18 = .ok (.ireturn, 1) := by decide +kernel
theorem dX6_read_19 : decode cX6_read 19 = .ok (.iload_n 1, 1) := by decide +kernel
theorem dX6_read_20 : decode cX6_read 20 = .ok (.iconst 2, 1) := by decide +kernel
theorem dX6_read_21 : decode cX6_read 21 = .ok (.if_icmp .ne 10, 3) := by decide +kernel
theorem dX6_read_24 : decode cX6_read 24 = .ok (.aload_n 0, 1) := by decide +kernel
theorem dX6_read_25 : decode cX6_read 25 = .ok (.iconst 0, 1) := by decide +kernel
theorem dX6_read_26 : decode cX6_read 26 = .ok (.iconst 3, 1) := by decide +kernel
theorem dX6_read_27 : decode cX6_read 27 = .ok (.invokevirtual 74, 3) := by decide +kernel
theorem dX6_read_30 : decode cX6_read 30 = .ok (.ireturn, 1) := by decide +kernel
theorem dX6_read_31 : decode cX6_read 31 = .ok (.iload_n 1, 1) := by decide +kernel
theorem dX6_read_32 : decode cX6_read 32 = .ok (.bipush 10, 2) := by decide +kernel
theorem dX6_read_34 : decode cX6_read 34 = .ok (.idiv, 1) := by decide +kernel
theorem dX6_read_35 : decode cX6_read 35 = .ok (.iconst 1, 1) := by decide +kernel
theorem dX6_read_36 : decode cX6_read 36 = .ok (.isub, 1) := by decide +kernel
theorem dX6_read_37 : decode cX6_read 37 = .ok (.istore_n 2, 1) := by decide +kernel
theorem dX6_read_38 : decode cX6_read 38 = .ok (.iload_n 2, 1) := by decide +kernel
theorem dX6_read_39 : decode cX6_read 39 = .ok (.ifCond .lt 23, 3) := by decide +kernel
theorem dX6_read_42 : decode cX6_read 42 = .ok (.iload_n 2, 1) := by decide +kernel
theorem dX6_read_43 : decode cX6_read 43 = .ok (.aload_n 0, 1) := by decide +kernel
theorem dX6_read_44 : decode cX6_read 44 = .ok (.getfield 71, 3) := by decide +kernel
theorem dX6_read_47 : decode cX6_read 47 = .ok (.if_icmp .ge 15, 3) := by decide +kernel
theorem dX6_read_50 : decode cX6_read 50 = .ok (.aload_n 0, 1) := by decide +kernel
theorem dX6_read_51 : decode cX6_read 51 = .ok (.iload_n 2, 1) := by decide +kernel
theorem dX6_read_52 : decode cX6_read 52 = .ok (.iload_n 1, 1) := by decide +kernel
theorem dX6_read_53 : decode cX6_read 53 = .ok (.bipush 10, 2) := by decide +kernel
theorem dX6_read_55 : decode cX6_read 55 = .ok (.irem, 1) := by decide +kernel
theorem dX6_read_56 : decode cX6_read 56 = .ok (.invokevirtual 74, 3) := by decide +kernel
theorem dX6_read_59 : decode cX6_read 59 = .ok (.goto 4, 3) := by decide +kernel
theorem dX6_read_62 : decode cX6_read 62 = .ok (.iconst (-1), 1) := by decide +kernel
theorem dX6_read_63 : decode cX6_read 63 = .ok (.ireturn, 1) := by decide +kernel
theorem dX6_findDepartures_0 : decode cX6_findDepartures 0 = .ok (.aload_n 0, 1) := by decide +kernel
theorem dX6_findDepartures_1 : decode cX6_findDepartures 1 = .ok (.iload_n 1, 1) := by decide +kernel
theorem dX6_findDepartures_2 : decode cX6_findDepartures 2 = .ok (.invokevirtual 78, 3) := by decide +kernel
theorem dX6_findDepartures_5 : decode cX6_findDepartures 5 = .ok (.aload_n 0, 1) := by decide +kernel
theorem dX6_findDepartures_6 : decode cX6_findDepartures 6 = .ok (.iconst 0, 1) := by decide +kernel
theorem dX6_findDepartures_7 : decode cX6_findDepartures 7 = .ok (.putfield 82, 3) := by decide +kernel
theorem dX6_findDepartures_10 : decode cX6_findDepartures 10 = .ok (.ldc 59, 2) := by decide +kernel
theorem dX6_findDepartures_12 : decode cX6_findDepartures 12 = .ok (.istore_n 3, 1) := by decide +kernel
theorem dX6_findDepartures_13 : decode cX6_findDepartures 13 = .ok (.aload_n 0, 1) := by decide +kernel
theorem dX6_findDepartures_14 : decode cX6_findDepartures 14 = .ok (.getfield 85, 3) := by decide +kernel
theorem dX6_findDepartures_17 : decode cX6_findDepartures 17 = .ok (.iconst 1, 1) := by decide +kernel
theorem dX6_findDepartures_18 : decode cX6_findDepartures 18 = .ok (.isub, 1) := by decide +kernel
theorem dX6_findDepartures_19 : decode cX6_findDepartures 19 = .ok (.istore 4, 2) := by decide +kernel
theorem dX6_findDepartures_21 : decode cX6_findDepartures 21 = .ok (.iload 4, 2) := by decide +kernel
theorem dX6_findDepartures_23 : decode cX6_findDepartures 23 = .ok (.ifCond .lt 59, 3) := by decide +kernel
theorem dX6_findDepartures_26 : decode cX6_findDepartures 26 = .ok (.aload_n 0, 1) := by decide +kernel
theorem dX6_findDepartures_27 : decode cX6_findDepartures 27 = .ok (.iload_n 1, 1) := by decide +kernel
theorem dX6_findDepartures_28 : decode cX6_findDepartures 28 = .ok (.iload_n 2, 1) := by decide +kernel
theorem dX6_findDepartures_29 : decode cX6_findDepartures 29 = .ok (.aload_n 0, 1) := by decide +kernel
theorem dX6_findDepartures_30 : decode cX6_findDepartures 30 = .ok (.getfield 36, 3) := by decide +kernel
theorem dX6_findDepartures_33 : decode cX6_findDepartures 33 = .ok (.iload 4, 2) := by decide +kernel
theorem dX6_findDepartures_35 : decode cX6_findDepartures 35 = .ok (.iaload, 1) := by decide +kernel
theorem dX6_findDepartures_36 : decode cX6_findDepartures 36 = .ok (.invokevirtual 52, 3) := by decide +kernel
theorem dX6_findDepartures_39 : decode cX6_findDepartures 39 = .ok (.istore 5, 2) := by decide +kernel
theorem dX6_findDepartures_41 : decode cX6_findDepartures 41 = .ok (.iload 5, 2) := by decide +kernel
theorem dX6_findDepartures_43 : decode cX6_findDepartures 43 = .ok (.iload_n 3, 1) := by decide +kernel
theorem dX6_findDepartures_44 : decode cX6_findDepartures 44 = .ok (.if_icmp .ge 32, 3) := by decide +kernel
theorem dX6_findDepartures_47 : decode cX6_findDepartures 47 = .ok (.aload_n 0, 1) := by decide +kernel
theorem dX6_findDepartures_48 : decode cX6_findDepartures 48 = .ok (.getfield 39, 3) := by decide +kernel
theorem dX6_findDepartures_51 : decode cX6_findDepartures 51 = .ok (.aload_n 0, 1) := by decide +kernel
theorem dX6_findDepartures_52 : decode cX6_findDepartures 52 = .ok (.getfield 82, 3) := by decide +kernel
theorem dX6_findDepartures_55 : decode cX6_findDepartures 55 = .ok (.aload_n 0, 1) := by decide +kernel
theorem dX6_findDepartures_56 : decode cX6_findDepartures 56 = .ok (.getfield 36, 3) := by decide +kernel
theorem dX6_findDepartures_59 : decode cX6_findDepartures 59 = .ok (.iload 4, 2) := by decide +kernel
theorem dX6_findDepartures_61 : decode cX6_findDepartures 61 = .ok (.iaload, 1) := by decide +kernel
theorem dX6_findDepartures_62 : decode cX6_findDepartures 62 = .ok (.iastore, 1) := by decide +kernel
theorem dX6_findDepartures_63 : decode cX6_findDepartures 63 = .ok (.aload_n 0, 1) := by decide +kernel
theorem dX6_findDepartures_64 : decode cX6_findDepartures 64 = .ok (.dup, 1) := by decide +kernel
theorem dX6_findDepartures_65 : decode cX6_findDepartures 65 = .ok (.getfield 82, 3) := by decide +kernel
theorem dX6_findDepartures_68 : decode cX6_findDepartures 68 = .ok (.iconst 1, 1) := by decide +kernel
theorem dX6_findDepartures_69 : decode cX6_findDepartures 69 = .ok (.iadd, 1) := by decide +kernel
theorem dX6_findDepartures_70 : decode cX6_findDepartures 70 = .ok (.putfield 82, 3) := by decide +kernel
theorem dX6_findDepartures_73 : decode cX6_findDepartures 73 = .ok (.iload 5, 2) := by decide +kernel
theorem dX6_findDepartures_75 : decode cX6_findDepartures 75 = .ok (.istore_n 3, 1) := by decide +kernel
theorem dX6_findDepartures_76 : decode cX6_findDepartures 76 = .ok (.iinc 4 (-1), 3) := by decide +kernel
theorem dX6_findDepartures_79 : decode cX6_findDepartures 79 = .ok (.goto (-58), 3) := by decide +kernel
theorem dX6_findDepartures_82 : decode cX6_findDepartures 82 = .ok (.aload_n 0, 1) := by decide +kernel
theorem dX6_findDepartures_83 : decode cX6_findDepartures 83 = .ok (.getfield 82, 3) := by decide +kernel
theorem dX6_findDepartures_86 : decode cX6_findDepartures 86 = .ok (.ireturn, 1) := by decide +kernel
theorem dX6_departureAt_0 : decode cX6_departureAt 0 = .ok (.aload_n 0, 1) := by decide +kernel
theorem dX6_departureAt_1 : decode cX6_departureAt 1 = .ok (.getfield 39, 3) := by decide +kernel
theorem dX6_departureAt_4 : decode cX6_departureAt 4 = .ok (.aload_n 0, 1) := by decide +kernel
theorem dX6_departureAt_5 : decode cX6_departureAt 5 = .ok (.getfield 82, 3) := by decide +kernel
theorem dX6_departureAt_8 : decode cX6_departureAt 8 = .ok (.iconst 1, 1) := by decide +kernel
theorem dX6_departureAt_9 : decode cX6_departureAt 9 = .ok (.isub, 1) := by decide +kernel
theorem dX6_departureAt_10 : decode cX6_departureAt 10 = .ok (.iload_n 1, 1) := by decide +kernel
theorem dX6_departureAt_11 : decode cX6_departureAt 11 = .ok (.isub, 1) := by decide +kernel
theorem dX6_departureAt_12 : decode cX6_departureAt 12 = .ok (.iaload, 1) := by decide +kernel
theorem dX6_departureAt_13 : decode cX6_departureAt 13 = .ok (.ireturn, 1) := by decide +kernel
theorem dX6_readLeg_0 : decode cX6_readLeg 0 = .ok (.aload_n 0, 1) := by decide +kernel
theorem dX6_readLeg_1 : decode cX6_readLeg 1 = .ok (.getfield 11, 3) := by decide +kernel
theorem dX6_readLeg_4 : decode cX6_readLeg 4 = .ok (.aload_n 0, 1) := by decide +kernel
theorem dX6_readLeg_5 : decode cX6_readLeg 5 = .ok (.getfield 24, 3) := by decide +kernel
theorem dX6_readLeg_8 : decode cX6_readLeg 8 = .ok (.iload_n 1, 1) := by decide +kernel
theorem dX6_readLeg_9 : decode cX6_readLeg 9 = .ok (.iaload, 1) := by decide +kernel
theorem dX6_readLeg_10 : decode cX6_readLeg 10 = .ok (.aaload, 1) := by decide +kernel
theorem dX6_readLeg_11 : decode cX6_readLeg 11 = .ok (.astore_n 3, 1) := by decide +kernel
theorem dX6_readLeg_12 : decode cX6_readLeg 12 = .ok (.iload_n 2, 1) := by decide +kernel
theorem dX6_readLeg_13 : decode cX6_readLeg 13 = .ok (.tableswitch 90 0 4 #[35, 42, 54, 66, 78], 35) := by decide +kernel
theorem dX6_readLeg_48 : decode cX6_readLeg 48 = .ok (.aload_n 0, 1) := by decide +kernel
theorem dX6_readLeg_49 : decode cX6_readLeg 49 = .ok (.getfield 24, 3) := by decide +kernel
theorem dX6_readLeg_52 : decode cX6_readLeg 52 = .ok (.iload_n 1, 1) := by decide +kernel
theorem dX6_readLeg_53 : decode cX6_readLeg 53 = .ok (.iaload, 1) := by decide +kernel
theorem dX6_readLeg_54 : decode cX6_readLeg 54 = .ok (.ireturn, 1) := by decide +kernel
theorem dX6_readLeg_55 : decode cX6_readLeg 55 = .ok (.aload_n 3, 1) := by decide +kernel
theorem dX6_readLeg_56 : decode cX6_readLeg 56 = .ok (.getfield 88, 3) := by decide +kernel
theorem dX6_readLeg_59 : decode cX6_readLeg 59 = .ok (.aload_n 0, 1) := by decide +kernel
theorem dX6_readLeg_60 : decode cX6_readLeg 60 = .ok (.getfield 30, 3) := by decide +kernel
theorem dX6_readLeg_63 : decode cX6_readLeg 63 = .ok (.iload_n 1, 1) := by decide +kernel
theorem dX6_readLeg_64 : decode cX6_readLeg 64 = .ok (.iaload, 1) := by decide +kernel
theorem dX6_readLeg_65 : decode cX6_readLeg 65 = .ok (.iaload, 1) := by decide +kernel
theorem dX6_readLeg_66 : decode cX6_readLeg 66 = .ok (.ireturn, 1) := by decide +kernel
theorem dX6_readLeg_67 : decode cX6_readLeg 67 = .ok (.aload_n 3, 1) := by decide +kernel
theorem dX6_readLeg_68 : decode cX6_readLeg 68 = .ok (.getfield 88, 3) := by decide +kernel
theorem dX6_readLeg_71 : decode cX6_readLeg 71 = .ok (.aload_n 0, 1) := by decide +kernel
theorem dX6_readLeg_72 : decode cX6_readLeg 72 = .ok (.getfield 33, 3) := by decide +kernel
theorem dX6_readLeg_75 : decode cX6_readLeg 75 = .ok (.iload_n 1, 1) := by decide +kernel
theorem dX6_readLeg_76 : decode cX6_readLeg 76 = .ok (.iaload, 1) := by decide +kernel
theorem dX6_readLeg_77 : decode cX6_readLeg 77 = .ok (.iaload, 1) := by decide +kernel
theorem dX6_readLeg_78 : decode cX6_readLeg 78 = .ok (.ireturn, 1) := by decide +kernel
theorem dX6_readLeg_79 : decode cX6_readLeg 79 = .ok (.aload_n 3, 1) := by decide +kernel
theorem dX6_readLeg_80 : decode cX6_readLeg 80 = .ok (.getfield 91, 3) := by decide +kernel
theorem dX6_readLeg_83 : decode cX6_readLeg 83 = .ok (.aload_n 0, 1) := by decide +kernel
theorem dX6_readLeg_84 : decode cX6_readLeg 84 = .ok (.getfield 30, 3) := by decide +kernel
theorem dX6_readLeg_87 : decode cX6_readLeg 87 = .ok (.iload_n 1, 1) := by decide +kernel
theorem dX6_readLeg_88 : decode cX6_readLeg 88 = .ok (.iaload, 1) := by decide +kernel
theorem dX6_readLeg_89 : decode cX6_readLeg 89 = .ok (.iaload, 1) := by decide +kernel
theorem dX6_readLeg_90 : decode cX6_readLeg 90 = .ok (.ireturn, 1) := by decide +kernel
theorem dX6_readLeg_91 : decode cX6_readLeg 91 = .ok (.aload_n 3, 1) := by decide +kernel
theorem dX6_readLeg_92 : decode cX6_readLeg 92 = .ok (.getfield 94, 3) := by decide +kernel
theorem dX6_readLeg_95 : decode cX6_readLeg 95 = .ok (.aload_n 0, 1) := by decide +kernel
theorem dX6_readLeg_96 : decode cX6_readLeg 96 = .ok (.getfield 33, 3) := by decide +kernel
theorem dX6_readLeg_99 : decode cX6_readLeg 99 = .ok (.iload_n 1, 1) := by decide +kernel
theorem dX6_readLeg_100 : decode cX6_readLeg 100 = .ok (.iaload, 1) := by decide +kernel
theorem dX6_readLeg_101 : decode cX6_readLeg 101 = .ok (.iaload, 1) := by decide +kernel
theorem dX6_readLeg_102 : decode cX6_readLeg 102 = .ok (.ireturn, 1) := by decide +kernel
theorem dX6_readLeg_103 : decode cX6_readLeg 103 = .ok (.iconst (-1), 1) := by decide +kernel
theorem dX6_readLeg_104 : decode cX6_readLeg 104 = .ok (.ireturn, 1) := by decide +kernel
theorem dX6_soonestAt_0 : decode cX6_soonestAt 0 = .ok (.aload_n 0, 1) := by decide +kernel
theorem dX6_soonestAt_1 : decode cX6_soonestAt 1 = .ok (.getfield 17, 3) := by decide +kernel
theorem dX6_soonestAt_4 : decode cX6_soonestAt 4 = .ok (.ldc 59, 2) := by decide +kernel
theorem dX6_soonestAt_6 : decode cX6_soonestAt 6 = .ok (.invokestatic 97, 3) := by decide +kernel
theorem dX6_soonestAt_9 : decode cX6_soonestAt 9 = .ok (.aload_n 0, 1) := by decide +kernel
theorem dX6_soonestAt_10 : decode cX6_soonestAt 10 = .ok (.getfield 17, 3) := by decide +kernel
theorem dX6_soonestAt_13 : decode cX6_soonestAt 13 = .ok (.iload_n 1, 1) := by decide +kernel
theorem dX6_soonestAt_14 : decode cX6_soonestAt 14 = .ok (.iload_n 3, 1) := by decide +kernel
theorem dX6_soonestAt_15 : decode cX6_soonestAt 15 = .ok (.aload_n 0, 1) := by decide +kernel
theorem dX6_soonestAt_16 : decode cX6_soonestAt 16 = .ok (.getfield 49, 3) := by decide +kernel
theorem dX6_soonestAt_19 : decode cX6_soonestAt 19 = .ok (.isub, 1) := by decide +kernel
theorem dX6_soonestAt_20 : decode cX6_soonestAt 20 = .ok (.iastore, 1) := by decide +kernel
theorem dX6_soonestAt_21 : decode cX6_soonestAt 21 = .ok (.iconst 1, 1) := by decide +kernel
theorem dX6_soonestAt_22 : decode cX6_soonestAt 22 = .ok (.istore 4, 2) := by decide +kernel
theorem dX6_soonestAt_24 : decode cX6_soonestAt 24 = .ok (.iconst 0, 1) := by decide +kernel
theorem dX6_soonestAt_25 : decode cX6_soonestAt 25 = .ok (.istore 5, 2) := by decide +kernel
theorem dX6_soonestAt_27 : decode cX6_soonestAt 27 = .ok (.iload 5, 2) := by decide +kernel
theorem dX6_soonestAt_29 : decode cX6_soonestAt 29 = .ok (.aload_n 0, 1) := by decide +kernel
theorem dX6_soonestAt_30 : decode cX6_soonestAt 30 = .ok (.getfield 42, 3) := by decide +kernel
theorem dX6_soonestAt_33 : decode cX6_soonestAt 33 = .ok (.if_icmp .ge 76, 3) := by decide +kernel
theorem dX6_soonestAt_36 : decode cX6_soonestAt 36 = .ok (.iload 4, 2) := by decide +kernel
theorem dX6_soonestAt_38 : decode cX6_soonestAt 38 = .ok (.ifCond .eq 71, 3) := by decide +kernel
theorem dX6_soonestAt_41 : decode cX6_soonestAt 41 = .ok (.iconst 0, 1) := by decide +kernel
theorem dX6_soonestAt_42 : decode cX6_soonestAt 42 = .ok (.istore 4, 2) := by decide +kernel
theorem dX6_soonestAt_44 : decode cX6_soonestAt 44 = .ok (.iconst 0, 1) := by decide +kernel
theorem dX6_soonestAt_45 : decode cX6_soonestAt 45 = .ok (.istore 6, 2) := by decide +kernel
theorem dX6_soonestAt_47 : decode cX6_soonestAt 47 = .ok (.iload 6, 2) := by decide +kernel
theorem dX6_soonestAt_49 : decode cX6_soonestAt 49 = .ok (.aload_n 0, 1) := by decide +kernel
theorem dX6_soonestAt_50 : decode cX6_soonestAt 50 = .ok (.getfield 42, 3) := by decide +kernel
theorem dX6_soonestAt_53 : decode cX6_soonestAt 53 = .ok (.if_icmp .ge 50, 3) := by decide +kernel
theorem dX6_soonestAt_56 : decode cX6_soonestAt 56 = .ok (.iload 4, 2) := by decide +kernel
theorem dX6_soonestAt_58 : decode cX6_soonestAt 58 = .ok (.aload_n 0, 1) := by decide +kernel
theorem dX6_soonestAt_59 : decode cX6_soonestAt 59 = .ok (.getfield 11, 3) := by decide +kernel
theorem dX6_soonestAt_62 : decode cX6_soonestAt 62 = .ok (.iload 6, 2) := by decide +kernel
theorem dX6_soonestAt_64 : decode cX6_soonestAt 64 = .ok (.aaload, 1) := by decide +kernel
theorem dX6_soonestAt_65 : decode cX6_soonestAt 65 = .ok (.aload_n 0, 1) := by decide +kernel
theorem dX6_soonestAt_66 : decode cX6_soonestAt 66 = .ok (.getfield 46, 3) := by decide +kernel
theorem dX6_soonestAt_69 : decode cX6_soonestAt 69 = .ok (.invokevirtual 103, 3) := by decide +kernel
theorem dX6_soonestAt_72 : decode cX6_soonestAt 72 = .ok (.ifCond .eq 21, 3) := by decide +kernel
theorem dX6_soonestAt_75 : decode cX6_soonestAt 75 = .ok (.aload_n 0, 1) := by decide +kernel
theorem dX6_soonestAt_76 : decode cX6_soonestAt 76 = .ok (.aload_n 0, 1) := by decide +kernel
theorem dX6_soonestAt_77 : decode cX6_soonestAt 77 = .ok (.getfield 11, 3) := by decide +kernel
theorem dX6_soonestAt_80 : decode cX6_soonestAt 80 = .ok (.iload 6, 2) := by decide +kernel
theorem dX6_soonestAt_82 : decode cX6_soonestAt 82 = .ok (.aaload, 1) := by decide +kernel
theorem dX6_soonestAt_83 : decode cX6_soonestAt 83 = .ok (.invokevirtual 107, 3) := by decide +kernel
theorem dX6_soonestAt_86 : decode cX6_soonestAt 86 = .ok (.ifCond .eq 7, 3) := by decide +kernel
theorem dX6_soonestAt_89 : decode cX6_soonestAt 89 = .ok (.iconst 1, 1) := by decide +kernel
theorem dX6_soonestAt_90 : decode cX6_soonestAt 90 = .ok (.goto 4, 3) := by decide +kernel
theorem dX6_soonestAt_93 : decode cX6_soonestAt 93 = .ok (.iconst 0, 1) := by decide +kernel
theorem dX6_soonestAt_94 : decode cX6_soonestAt 94 = .ok (.ior, 1) := by decide +kernel
theorem dX6_soonestAt_95 : decode cX6_soonestAt 95 = .ok (.istore 4, 2) := by decide +kernel
theorem dX6_soonestAt_97 : decode cX6_soonestAt 97 = .ok (.iinc 6 1, 3) := by decide +kernel
theorem dX6_soonestAt_100 : decode cX6_soonestAt 100 = .ok (.goto (-53), 3) := by decide +kernel
theorem dX6_soonestAt_103 : decode cX6_soonestAt 103 = .ok (.iinc 5 1, 3) := by decide +kernel
theorem dX6_soonestAt_106 : decode cX6_soonestAt 106 = .ok (.goto (-79), 3) := by decide +kernel
theorem dX6_soonestAt_109 : decode cX6_soonestAt 109 = .ok (.aload_n 0, 1) := by decide +kernel
theorem dX6_soonestAt_110 : decode cX6_soonestAt 110 = .ok (.getfield 17, 3) := by decide +kernel
theorem dX6_soonestAt_113 : decode cX6_soonestAt 113 = .ok (.iload_n 2, 1) := by decide +kernel
theorem dX6_soonestAt_114 : decode cX6_soonestAt 114 = .ok (.iaload, 1) := by decide +kernel
theorem dX6_soonestAt_115 : decode cX6_soonestAt 115 = .ok (.ireturn, 1) := by decide +kernel
theorem dX6_ride_0 : decode cX6_ride 0 = .ok (.iconst 0, 1) := by decide +kernel
theorem dX6_ride_1 : decode cX6_ride 1 = .ok (.istore_n 2, 1) := by decide +kernel
theorem dX6_ride_2 : decode cX6_ride 2 = .ok (.iconst 0, 1) := by decide +kernel
theorem dX6_ride_3 : decode cX6_ride 3 = .ok (.istore_n 3, 1) := by decide +kernel
theorem dX6_ride_4 : decode cX6_ride 4 = .ok (.iconst 0, 1) := by decide +kernel
theorem dX6_ride_5 : decode cX6_ride 5 = .ok (.istore 4, 2) := by decide +kernel
theorem dX6_ride_7 : decode cX6_ride 7 = .ok (.iload 4, 2) := by decide +kernel
theorem dX6_ride_9 : decode cX6_ride 9 = .ok (.aload_n 1, 1) := by decide +kernel
theorem dX6_ride_10 : decode cX6_ride 10 = .ok (.getfield 111, 3) := by decide +kernel
theorem dX6_ride_13 : decode cX6_ride 13 = .ok (.if_icmp .ge 85, 3) := by decide +kernel
theorem dX6_ride_16 : decode cX6_ride 16 = .ok (.aload_n 1, 1) := by decide +kernel
theorem dX6_ride_17 : decode cX6_ride 17 = .ok (.getfield 88, 3) := by decide +kernel
theorem dX6_ride_20 : decode cX6_ride 20 = .ok (.iload 4, 2) := by decide +kernel
theorem dX6_ride_22 : decode cX6_ride 22 = .ok (.iaload, 1) := by decide +kernel
theorem dX6_ride_23 : decode cX6_ride 23 = .ok (.istore 5, 2) := by decide +kernel
theorem dX6_ride_25 : decode cX6_ride 25 = .ok (.iload_n 2, 1) := by decide +kernel
theorem dX6_ride_26 : decode cX6_ride 26 = .ok (.ifCond .eq 36, 3) := by decide +kernel
theorem dX6_ride_29 : decode cX6_ride 29 = .ok (.aload_n 1, 1) := by decide +kernel
theorem dX6_ride_30 : decode cX6_ride 30 = .ok (.getfield 94, 3) := by decide +kernel
theorem dX6_ride_33 : decode cX6_ride 33 = .ok (.iload 4, 2) := by decide +kernel
theorem dX6_ride_35 : decode cX6_ride 35 = .ok (.iaload, 1) := by decide +kernel
theorem dX6_ride_36 : decode cX6_ride 36 = .ok (.aload_n 0, 1) := by decide +kernel
theorem dX6_ride_37 : decode cX6_ride 37 = .ok (.getfield 17, 3) := by decide +kernel
theorem dX6_ride_40 : decode cX6_ride 40 = .ok (.iload 5, 2) := by decide +kernel
theorem dX6_ride_42 : decode cX6_ride 42 = .ok (.iaload, 1) := by decide +kernel
theorem dX6_ride_43 : decode cX6_ride 43 = .ok (.if_icmp .ge 19, 3) := by decide +kernel
theorem dX6_ride_46 : decode cX6_ride 46 = .ok (.aload_n 0, 1) := by decide +kernel
theorem dX6_ride_47 : decode cX6_ride 47 = .ok (.getfield 17, 3) := by decide +kernel
theorem dX6_ride_50 : decode cX6_ride 50 = .ok (.iload 5, 2) := by decide +kernel
theorem dX6_ride_52 : decode cX6_ride 52 = .ok (.aload_n 1, 1) := by decide +kernel
theorem dX6_ride_53 : decode cX6_ride 53 = .ok (.getfield 94, 3) := by decide +kernel
theorem dX6_ride_56 : decode cX6_ride 56 = .ok (.iload 4, 2) := by decide +kernel
theorem dX6_ride_58 : decode cX6_ride 58 = .ok (.iaload, 1) := by decide +kernel
theorem dX6_ride_59 : decode cX6_ride 59 = .ok (.iastore, 1) := by decide +kernel
theorem dX6_ride_60 : decode cX6_ride 60 = .ok (.iconst 1, 1) := by decide +kernel
theorem dX6_ride_61 : decode cX6_ride 61 = .ok (.istore_n 3, 1) := by decide +kernel
theorem dX6_ride_62 : decode cX6_ride 62 = .ok (.iload_n 2, 1) := by decide +kernel
theorem dX6_ride_63 : decode cX6_ride 63 = .ok (.aload_n 0, 1) := by decide +kernel
theorem dX6_ride_64 : decode cX6_ride 64 = .ok (.getfield 17, 3) := by decide +kernel
theorem dX6_ride_67 : decode cX6_ride 67 = .ok (.iload 5, 2) := by decide +kernel
theorem dX6_ride_69 : decode cX6_ride 69 = .ok (.iaload, 1) := by decide +kernel
theorem dX6_ride_70 : decode cX6_ride 70 = .ok (.aload_n 0, 1) := by decide +kernel
theorem dX6_ride_71 : decode cX6_ride 71 = .ok (.getfield 49, 3) := by decide +kernel
theorem dX6_ride_74 : decode cX6_ride 74 = .ok (.iadd, 1) := by decide +kernel
theorem dX6_ride_75 : decode cX6_ride 75 = .ok (.aload_n 1, 1) := by decide +kernel
theorem dX6_ride_76 : decode cX6_ride 76 = .ok (.getfield 91, 3) := by decide +kernel
theorem dX6_ride_79 : decode cX6_ride 79 = .ok (.iload 4, 2) := by decide +kernel
theorem dX6_ride_81 : decode cX6_ride 81 = .ok (.iaload, 1) := by decide +kernel
theorem dX6_ride_82 : decode cX6_ride 82 = .ok (.if_icmp .gt 7, 3) := by decide +kernel
theorem dX6_ride_85 : decode cX6_ride 85 = .ok (.iconst 1, 1) := by decide +kernel
theorem dX6_ride_86 : decode cX6_ride 86 = .ok (.goto 4, 3) := by decide +kernel
theorem dX6_ride_89 : decode cX6_ride 89 = .ok (.iconst 0, 1) := by decide +kernel
theorem dX6_ride_90 : decode cX6_ride 90 = .ok (.ior, 1) := by decide +kernel
theorem dX6_ride_91 : decode cX6_ride 91 = .ok (.istore_n 2, 1) := by decide +kernel
theorem dX6_ride_92 : decode cX6_ride 92 = .ok (.iinc 4 1, 3) := by decide +kernel
theorem dX6_ride_95 : decode cX6_ride 95 = .ok (.goto (-88), 3) := by decide +kernel
theorem dX6_ride_98 : decode cX6_ride 98 = .ok (.iload_n 3, 1) := by decide +kernel
theorem dX6_ride_99 : decode cX6_ride 99 = .ok (.ireturn, 1) := by decide +kernel
theorem dX6_countLegs_0 : decode cX6_countLegs 0 = .ok (.iconst 0, 1) := by decide +kernel
theorem dX6_countLegs_1 : decode cX6_countLegs 1 = .ok (.istore 4, 2) := by decide +kernel
theorem dX6_countLegs_3 : decode cX6_countLegs 3 = .ok (.iload 4, 2) := by decide +kernel
theorem dX6_countLegs_5 : decode cX6_countLegs 5 = .ok (.aload_n 0, 1) := by decide +kernel
theorem dX6_countLegs_6 : decode cX6_countLegs 6 = .ok (.getfield 42, 3) := by decide +kernel
theorem dX6_countLegs_9 : decode cX6_countLegs 9 = .ok (.if_icmp .ge 49, 3) := by decide +kernel
theorem dX6_countLegs_12 : decode cX6_countLegs 12 = .ok (.aload_n 0, 1) := by decide +kernel
theorem dX6_countLegs_13 : decode cX6_countLegs 13 = .ok (.getfield 21, 3) := by decide +kernel
theorem dX6_countLegs_16 : decode cX6_countLegs 16 = .ok (.iload 4, 2) := by decide +kernel
theorem dX6_countLegs_18 : decode cX6_countLegs 18 = .ok (.aload_n 0, 1) := by decide +kernel
theorem dX6_countLegs_19 : decode cX6_countLegs 19 = .ok (.getfield 11, 3) := by decide +kernel
theorem dX6_countLegs_22 : decode cX6_countLegs 22 = .ok (.iload 4, 2) := by decide +kernel
theorem dX6_countLegs_24 : decode cX6_countLegs 24 = .ok (.aaload, 1) := by decide +kernel
theorem dX6_countLegs_25 : decode cX6_countLegs 25 = .ok (.aload_n 0, 1) := by decide +kernel
theorem dX6_countLegs_26 : decode cX6_countLegs 26 = .ok (.getfield 46, 3) := by decide +kernel
theorem dX6_countLegs_29 : decode cX6_countLegs 29 = .ok (.invokevirtual 103, 3) := by decide +kernel
theorem dX6_countLegs_32 : decode cX6_countLegs 32 = .ok (.ifCond .eq 18, 3) := by decide +kernel
theorem dX6_countLegs_35 : decode cX6_countLegs 35 = .ok (.aload_n 0, 1) := by decide +kernel
theorem dX6_countLegs_36 : decode cX6_countLegs 36 = .ok (.aload_n 0, 1) := by decide +kernel
theorem dX6_countLegs_37 : decode cX6_countLegs 37 = .ok (.getfield 11, 3) := by decide +kernel
theorem dX6_countLegs_40 : decode cX6_countLegs 40 = .ok (.iload 4, 2) := by decide +kernel
theorem dX6_countLegs_42 : decode cX6_countLegs 42 = .ok (.aaload, 1) := by decide +kernel
theorem dX6_countLegs_43 : decode cX6_countLegs 43 = .ok (.iload_n 2, 1) := by decide +kernel
theorem dX6_countLegs_44 : decode cX6_countLegs 44 = .ok (.invokevirtual 114, 3) := by decide +kernel
theorem dX6_countLegs_47 : decode cX6_countLegs 47 = .ok (.goto 4, 3) := by decide +kernel
theorem dX6_countLegs_50 : decode cX6_countLegs 50 = .ok (.iconst (-1), 1) := by decide +kernel
theorem dX6_countLegs_51 : decode cX6_countLegs 51 = .ok (.iastore, 1) := by decide +kernel
end
section
theorem dX6_countLegs_52 : decode cX6_countLegs 52 = .ok (.iinc 4 1, 3) := by decide +kernel
theorem dX6_countLegs_55 : decode cX6_countLegs 55 = .ok (.goto (-52), 3) := by decide +kernel
theorem dX6_countLegs_58 : decode cX6_countLegs 58 = .ok (.aload_n 0, 1) := by decide +kernel
theorem dX6_countLegs_59 : decode cX6_countLegs 59 = .ok (.iconst 1, 1) := by decide +kernel
theorem dX6_countLegs_60 : decode cX6_countLegs 60 = .ok (.putfield 71, 3) := by decide +kernel
theorem dX6_countLegs_63 : decode cX6_countLegs 63 = .ok (.aload_n 0, 1) := by decide +kernel
theorem dX6_countLegs_64 : decode cX6_countLegs 64 = .ok (.getfield 71, 3) := by decide +kernel
theorem dX6_countLegs_67 : decode cX6_countLegs 67 = .ok (.aload_n 0, 1) := by decide +kernel
theorem dX6_countLegs_68 : decode cX6_countLegs 68 = .ok (.getfield 42, 3) := by decide +kernel
theorem dX6_countLegs_71 : decode cX6_countLegs 71 = .ok (.if_icmp .ge 97, 3) := by decide +kernel
theorem dX6_countLegs_74 : decode cX6_countLegs 74 = .ok (.aload_n 0, 1) := by decide +kernel
theorem dX6_countLegs_75 : decode cX6_countLegs 75 = .ok (.iload_n 1, 1) := by decide +kernel
theorem dX6_countLegs_76 : decode cX6_countLegs 76 = .ok (.iload_n 3, 1) := by decide +kernel
theorem dX6_countLegs_77 : decode cX6_countLegs 77 = .ok (.invokevirtual 118, 3) := by decide +kernel
theorem dX6_countLegs_80 : decode cX6_countLegs 80 = .ok (.iconst (-1), 1) := by decide +kernel
theorem dX6_countLegs_81 : decode cX6_countLegs 81 = .ok (.if_icmp .ne 87, 3) := by decide +kernel
theorem dX6_countLegs_84 : decode cX6_countLegs 84 = .ok (.iconst 0, 1) := by decide +kernel
theorem dX6_countLegs_85 : decode cX6_countLegs 85 = .ok (.istore 4, 2) := by decide +kernel
theorem dX6_countLegs_87 : decode cX6_countLegs 87 = .ok (.iload 4, 2) := by decide +kernel
theorem dX6_countLegs_89 : decode cX6_countLegs 89 = .ok (.aload_n 0, 1) := by decide +kernel
theorem dX6_countLegs_90 : decode cX6_countLegs 90 = .ok (.getfield 42, 3) := by decide +kernel
theorem dX6_countLegs_93 : decode cX6_countLegs 93 = .ok (.if_icmp .ge 62, 3) := by decide +kernel
theorem dX6_countLegs_96 : decode cX6_countLegs 96 = .ok (.aload_n 0, 1) := by decide +kernel
theorem dX6_countLegs_97 : decode cX6_countLegs 97 = .ok (.getfield 21, 3) := by decide +kernel
theorem dX6_countLegs_100 : decode cX6_countLegs 100 = .ok (.aload_n 0, 1) := by decide +kernel
theorem dX6_countLegs_101 : decode cX6_countLegs 101 = .ok (.getfield 71, 3) := by decide +kernel
theorem dX6_countLegs_104 : decode cX6_countLegs 104 = .ok (.bipush 10, 2) := by decide +kernel
theorem dX6_countLegs_106 : decode cX6_countLegs 106 = .ok (.imul, 1) := by decide +kernel
theorem dX6_countLegs_107 : decode cX6_countLegs 107 = .ok (.iload 4, 2) := by decide +kernel
theorem dX6_countLegs_109 : decode cX6_countLegs 109 = .ok (.iadd, 1) := by decide +kernel
theorem dX6_countLegs_110 : decode cX6_countLegs 110 = .ok (.aload_n 0, 1) := by decide +kernel
theorem dX6_countLegs_111 : decode cX6_countLegs 111 = .ok (.getfield 11, 3) := by decide +kernel
theorem dX6_countLegs_114 : decode cX6_countLegs 114 = .ok (.iload 4, 2) := by decide +kernel
theorem dX6_countLegs_116 : decode cX6_countLegs 116 = .ok (.aaload, 1) := by decide +kernel
theorem dX6_countLegs_117 : decode cX6_countLegs 117 = .ok (.aload_n 0, 1) := by decide +kernel
theorem dX6_countLegs_118 : decode cX6_countLegs 118 = .ok (.getfield 46, 3) := by decide +kernel
theorem dX6_countLegs_121 : decode cX6_countLegs 121 = .ok (.invokevirtual 103, 3) := by decide +kernel
theorem dX6_countLegs_124 : decode cX6_countLegs 124 = .ok (.ifCond .eq 23, 3) := by decide +kernel
theorem dX6_countLegs_127 : decode cX6_countLegs 127 = .ok (.aload_n 0, 1) := by decide +kernel
theorem dX6_countLegs_128 : decode cX6_countLegs 128 = .ok (.aload_n 0, 1) := by decide +kernel
theorem dX6_countLegs_129 : decode cX6_countLegs 129 = .ok (.getfield 11, 3) := by decide +kernel
theorem dX6_countLegs_132 : decode cX6_countLegs 132 = .ok (.iload 4, 2) := by decide +kernel
theorem dX6_countLegs_134 : decode cX6_countLegs 134 = .ok (.aaload, 1) := by decide +kernel
theorem dX6_countLegs_135 : decode cX6_countLegs 135 = .ok (.aload_n 0, 1) := by decide +kernel
theorem dX6_countLegs_136 : decode cX6_countLegs 136 = .ok (.getfield 71, 3) := by decide +kernel
theorem dX6_countLegs_139 : decode cX6_countLegs 139 = .ok (.iconst 1, 1) := by decide +kernel
theorem dX6_countLegs_140 : decode cX6_countLegs 140 = .ok (.isub, 1) := by decide +kernel
theorem dX6_countLegs_141 : decode cX6_countLegs 141 = .ok (.invokevirtual 121, 3) := by decide +kernel
theorem dX6_countLegs_144 : decode cX6_countLegs 144 = .ok (.goto 4, 3) := by decide +kernel
theorem dX6_countLegs_147 : decode cX6_countLegs 147 = .ok (.iconst (-1), 1) := by decide +kernel
theorem dX6_countLegs_148 : decode cX6_countLegs 148 = .ok (.iastore, 1) := by decide +kernel
theorem dX6_countLegs_149 : decode cX6_countLegs 149 = .ok (.iinc 4 1, 3) := by decide +kernel
theorem dX6_countLegs_152 : decode cX6_countLegs 152 = .ok (.goto (-65), 3) := by decide +kernel
theorem dX6_countLegs_155 : decode cX6_countLegs 155 = .ok (.aload_n 0, 1) := by decide +kernel
theorem dX6_countLegs_156 : decode cX6_countLegs 156 = .ok (.dup, 1) := by decide +kernel
theorem dX6_countLegs_157 : decode cX6_countLegs 157 = .ok (.getfield 71, 3) := by decide +kernel
theorem dX6_countLegs_160 : decode cX6_countLegs 160 = .ok (.iconst 1, 1) := by decide +kernel
theorem dX6_countLegs_161 : decode cX6_countLegs 161 = .ok (.iadd, 1) := by decide +kernel
theorem dX6_countLegs_162 : decode cX6_countLegs 162 = .ok (.putfield 71, 3) := by decide +kernel
theorem dX6_countLegs_165 : decode cX6_countLegs 165 = .ok (.goto (-102), 3) := by decide +kernel
theorem dX6_countLegs_168 : decode cX6_countLegs 168 = .ok (.return_, 1) := by decide +kernel
theorem dX6_lastBoardTo_0 : decode cX6_lastBoardTo 0 = .ok (.aload_n 1, 1) := by decide +kernel
theorem dX6_lastBoardTo_1 : decode cX6_lastBoardTo 1 = .ok (.getfield 124, 3) := by decide +kernel
theorem dX6_lastBoardTo_4 : decode cX6_lastBoardTo 4 = .ok (.iload_n 2, 1) := by decide +kernel
theorem dX6_lastBoardTo_5 : decode cX6_lastBoardTo 5 = .ok (.iaload, 1) := by decide +kernel
theorem dX6_lastBoardTo_6 : decode cX6_lastBoardTo 6 = .ok (.istore_n 3, 1) := by decide +kernel
theorem dX6_lastBoardTo_7 : decode cX6_lastBoardTo 7 = .ok (.iload_n 3, 1) := by decide +kernel
theorem dX6_lastBoardTo_8 : decode cX6_lastBoardTo 8 = .ok (.ifCond .le 22, 3) := by decide +kernel
theorem dX6_lastBoardTo_11 : decode cX6_lastBoardTo 11 = .ok (.aload_n 1, 1) := by decide +kernel
theorem dX6_lastBoardTo_12 : decode cX6_lastBoardTo 12 = .ok (.getfield 94, 3) := by decide +kernel
theorem dX6_lastBoardTo_15 : decode cX6_lastBoardTo 15 = .ok (.iload_n 3, 1) := by decide +kernel
theorem dX6_lastBoardTo_16 : decode cX6_lastBoardTo 16 = .ok (.iaload, 1) := by decide +kernel
theorem dX6_lastBoardTo_17 : decode cX6_lastBoardTo 17 = .ok (.aload_n 0, 1) := by decide +kernel
theorem dX6_lastBoardTo_18 : decode cX6_lastBoardTo 18 = .ok (.getfield 56, 3) := by decide +kernel
theorem dX6_lastBoardTo_21 : decode cX6_lastBoardTo 21 = .ok (.if_icmp .ne 9, 3) := by decide +kernel
theorem dX6_lastBoardTo_24 : decode cX6_lastBoardTo 24 = .ok (.iload_n 3, 1) := by decide +kernel
theorem dX6_lastBoardTo_25 : decode cX6_lastBoardTo 25 = .ok (.iconst 1, 1) := by decide +kernel
theorem dX6_lastBoardTo_26 : decode cX6_lastBoardTo 26 = .ok (.isub, 1) := by decide +kernel
theorem dX6_lastBoardTo_27 : decode cX6_lastBoardTo 27 = .ok (.goto 4, 3) := by decide +kernel
theorem dX6_lastBoardTo_30 : decode cX6_lastBoardTo 30 = .ok (.iconst (-1), 1) := by decide +kernel
theorem dX6_lastBoardTo_31 : decode cX6_lastBoardTo 31 = .ok (.ireturn, 1) := by decide +kernel
theorem dX6_lastBoardBefore_0 : decode cX6_lastBoardBefore 0 = .ok (.aload_n 1, 1) := by decide +kernel
theorem dX6_lastBoardBefore_1 : decode cX6_lastBoardBefore 1 = .ok (.getfield 111, 3) := by decide +kernel
theorem dX6_lastBoardBefore_4 : decode cX6_lastBoardBefore 4 = .ok (.iconst 1, 1) := by decide +kernel
theorem dX6_lastBoardBefore_5 : decode cX6_lastBoardBefore 5 = .ok (.isub, 1) := by decide +kernel
theorem dX6_lastBoardBefore_6 : decode cX6_lastBoardBefore 6 = .ok (.istore_n 3, 1) := by decide +kernel
theorem dX6_lastBoardBefore_7 : decode cX6_lastBoardBefore 7 = .ok (.iload_n 3, 1) := by decide +kernel
theorem dX6_lastBoardBefore_8 : decode cX6_lastBoardBefore 8 = .ok (.ifCond .le 59, 3) := by decide +kernel
theorem dX6_lastBoardBefore_11 : decode cX6_lastBoardBefore 11 = .ok (.iconst 0, 1) := by decide +kernel
theorem dX6_lastBoardBefore_12 : decode cX6_lastBoardBefore 12 = .ok (.istore 4, 2) := by decide +kernel
theorem dX6_lastBoardBefore_14 : decode cX6_lastBoardBefore 14 = .ok (.iload 4, 2) := by decide +kernel
theorem dX6_lastBoardBefore_16 : decode cX6_lastBoardBefore 16 = .ok (.aload_n 0, 1) := by decide +kernel
theorem dX6_lastBoardBefore_17 : decode cX6_lastBoardBefore 17 = .ok (.getfield 42, 3) := by decide +kernel
theorem dX6_lastBoardBefore_20 : decode cX6_lastBoardBefore 20 = .ok (.if_icmp .ge 41, 3) := by decide +kernel
theorem dX6_lastBoardBefore_23 : decode cX6_lastBoardBefore 23 = .ok (.aload_n 0, 1) := by decide +kernel
theorem dX6_lastBoardBefore_24 : decode cX6_lastBoardBefore 24 = .ok (.aload_n 1, 1) := by decide +kernel
theorem dX6_lastBoardBefore_25 : decode cX6_lastBoardBefore 25 = .ok (.iload_n 3, 1) := by decide +kernel
theorem dX6_lastBoardBefore_26 : decode cX6_lastBoardBefore 26 = .ok (.aload_n 0, 1) := by decide +kernel
theorem dX6_lastBoardBefore_27 : decode cX6_lastBoardBefore 27 = .ok (.getfield 11, 3) := by decide +kernel
theorem dX6_lastBoardBefore_30 : decode cX6_lastBoardBefore 30 = .ok (.iload 4, 2) := by decide +kernel
theorem dX6_lastBoardBefore_32 : decode cX6_lastBoardBefore 32 = .ok (.aaload, 1) := by decide +kernel
theorem dX6_lastBoardBefore_33 : decode cX6_lastBoardBefore 33 = .ok (.aload_n 0, 1) := by decide +kernel
theorem dX6_lastBoardBefore_34 : decode cX6_lastBoardBefore 34 = .ok (.getfield 21, 3) := by decide +kernel
theorem dX6_lastBoardBefore_37 : decode cX6_lastBoardBefore 37 = .ok (.iload_n 2, 1) := by decide +kernel
theorem dX6_lastBoardBefore_38 : decode cX6_lastBoardBefore 38 = .ok (.bipush 10, 2) := by decide +kernel
theorem dX6_lastBoardBefore_40 : decode cX6_lastBoardBefore 40 = .ok (.imul, 1) := by decide +kernel
theorem dX6_lastBoardBefore_41 : decode cX6_lastBoardBefore 41 = .ok (.iload 4, 2) := by decide +kernel
theorem dX6_lastBoardBefore_43 : decode cX6_lastBoardBefore 43 = .ok (.iadd, 1) := by decide +kernel
theorem dX6_lastBoardBefore_44 : decode cX6_lastBoardBefore 44 = .ok (.iaload, 1) := by decide +kernel
theorem dX6_lastBoardBefore_45 : decode cX6_lastBoardBefore 45 = .ok (.invokevirtual 127, 3) := by decide +kernel
theorem dX6_lastBoardBefore_48 : decode cX6_lastBoardBefore 48 = .ok (.ifCond .eq 7, 3) := by decide +kernel
theorem dX6_lastBoardBefore_51 : decode cX6_lastBoardBefore 51 = .ok (.iload_n 3, 1) := by decide +kernel
theorem dX6_lastBoardBefore_52 : decode cX6_lastBoardBefore 52 = .ok (.iconst 1, 1) := by decide +kernel
theorem dX6_lastBoardBefore_53 : decode cX6_lastBoardBefore 53 = .ok (.isub, 1) := by decide +kernel
theorem dX6_lastBoardBefore_54 : decode cX6_lastBoardBefore 54 = .ok (.ireturn, 1) := by decide +kernel
theorem dX6_lastBoardBefore_55 : decode cX6_lastBoardBefore 55 = .ok (.iinc 4 1, 3) := by decide +kernel
theorem dX6_lastBoardBefore_58 : decode cX6_lastBoardBefore 58 = .ok (.goto (-44), 3) := by decide +kernel
theorem dX6_lastBoardBefore_61 : decode cX6_lastBoardBefore 61 = .ok (.iinc 3 (-1), 3) := by decide +kernel
theorem dX6_lastBoardBefore_64 : decode cX6_lastBoardBefore 64 = .ok (.goto (-57), 3) := by decide +kernel
theorem dX6_lastBoardBefore_67 : decode cX6_lastBoardBefore 67 = .ok (.iconst (-1), 1) := by decide +kernel
theorem dX6_lastBoardBefore_68 : decode cX6_lastBoardBefore 68 = .ok (.ireturn, 1) := by decide +kernel
theorem dX6_canChange_0 : decode cX6_canChange 0 = .ok (.aload_n 3, 1) := by decide +kernel
theorem dX6_canChange_1 : decode cX6_canChange 1 = .ok (.getfield 124, 3) := by decide +kernel
theorem dX6_canChange_4 : decode cX6_canChange 4 = .ok (.aload_n 1, 1) := by decide +kernel
theorem dX6_canChange_5 : decode cX6_canChange 5 = .ok (.getfield 88, 3) := by decide +kernel
theorem dX6_canChange_8 : decode cX6_canChange 8 = .ok (.iload_n 2, 1) := by decide +kernel
theorem dX6_canChange_9 : decode cX6_canChange 9 = .ok (.iaload, 1) := by decide +kernel
theorem dX6_canChange_10 : decode cX6_canChange 10 = .ok (.iaload, 1) := by decide +kernel
theorem dX6_canChange_11 : decode cX6_canChange 11 = .ok (.istore 5, 2) := by decide +kernel
theorem dX6_canChange_13 : decode cX6_canChange 13 = .ok (.iload 5, 2) := by decide +kernel
theorem dX6_canChange_15 : decode cX6_canChange 15 = .ok (.iconst (-1), 1) := by decide +kernel
theorem dX6_canChange_16 : decode cX6_canChange 16 = .ok (.if_icmp .eq 35, 3) := by decide +kernel
theorem dX6_canChange_19 : decode cX6_canChange 19 = .ok (.iload 5, 2) := by decide +kernel
theorem dX6_canChange_21 : decode cX6_canChange 21 = .ok (.iload 4, 2) := by decide +kernel
theorem dX6_canChange_23 : decode cX6_canChange 23 = .ok (.if_icmp .gt 28, 3) := by decide +kernel
theorem dX6_canChange_26 : decode cX6_canChange 26 = .ok (.aload_n 3, 1) := by decide +kernel
theorem dX6_canChange_27 : decode cX6_canChange 27 = .ok (.getfield 91, 3) := by decide +kernel
theorem dX6_canChange_30 : decode cX6_canChange 30 = .ok (.iload 5, 2) := by decide +kernel
theorem dX6_canChange_32 : decode cX6_canChange 32 = .ok (.iaload, 1) := by decide +kernel
theorem dX6_canChange_33 : decode cX6_canChange 33 = .ok (.aload_n 1, 1) := by decide +kernel
theorem dX6_canChange_34 : decode cX6_canChange 34 = .ok (.getfield 94, 3) := by decide +kernel
theorem dX6_canChange_37 : decode cX6_canChange 37 = .ok (.iload_n 2, 1) := by decide +kernel
theorem dX6_canChange_38 : decode cX6_canChange 38 = .ok (.iaload, 1) := by decide +kernel
theorem dX6_canChange_39 : decode cX6_canChange 39 = .ok (.aload_n 0, 1) := by decide +kernel
theorem dX6_canChange_40 : decode cX6_canChange 40 = .ok (.getfield 49, 3) := by decide +kernel
theorem dX6_canChange_43 : decode cX6_canChange 43 = .ok (.iadd, 1) := by decide +kernel
theorem dX6_canChange_44 : decode cX6_canChange 44 = .ok (.if_icmp .lt 7, 3) := by decide +kernel
theorem dX6_canChange_47 : decode cX6_canChange 47 = .ok (.iconst 1, 1) := by decide +kernel
theorem dX6_canChange_48 : decode cX6_canChange 48 = .ok (.goto 4, 3) := by decide +kernel
theorem dX6_canChange_51 : decode cX6_canChange 51 = .ok (.iconst 0, 1) := by decide +kernel
theorem dX6_canChange_52 : decode cX6_canChange 52 = .ok (.ireturn, 1) := by decide +kernel
theorem dX6_firstTrain_0 : decode cX6_firstTrain 0 = .ok (.iconst 0, 1) := by decide +kernel
theorem dX6_firstTrain_1 : decode cX6_firstTrain 1 = .ok (.istore_n 3, 1) := by decide +kernel
theorem dX6_firstTrain_2 : decode cX6_firstTrain 2 = .ok (.iload_n 3, 1) := by decide +kernel
theorem dX6_firstTrain_3 : decode cX6_firstTrain 3 = .ok (.aload_n 0, 1) := by decide +kernel
theorem dX6_firstTrain_4 : decode cX6_firstTrain 4 = .ok (.getfield 42, 3) := by decide +kernel
theorem dX6_firstTrain_7 : decode cX6_firstTrain 7 = .ok (.if_icmp .ge 67, 3) := by decide +kernel
theorem dX6_firstTrain_10 : decode cX6_firstTrain 10 = .ok (.aload_n 0, 1) := by decide +kernel
theorem dX6_firstTrain_11 : decode cX6_firstTrain 11 = .ok (.getfield 11, 3) := by decide +kernel
theorem dX6_firstTrain_14 : decode cX6_firstTrain 14 = .ok (.iload_n 3, 1) := by decide +kernel
theorem dX6_firstTrain_15 : decode cX6_firstTrain 15 = .ok (.aaload, 1) := by decide +kernel
theorem dX6_firstTrain_16 : decode cX6_firstTrain 16 = .ok (.getfield 124, 3) := by decide +kernel
theorem dX6_firstTrain_19 : decode cX6_firstTrain 19 = .ok (.iload_n 1, 1) := by decide +kernel
theorem dX6_firstTrain_20 : decode cX6_firstTrain 20 = .ok (.iaload, 1) := by decide +kernel
theorem dX6_firstTrain_21 : decode cX6_firstTrain 21 = .ok (.istore 4, 2) := by decide +kernel
theorem dX6_firstTrain_23 : decode cX6_firstTrain 23 = .ok (.iload 4, 2) := by decide +kernel
theorem dX6_firstTrain_25 : decode cX6_firstTrain 25 = .ok (.iconst (-1), 1) := by decide +kernel
theorem dX6_firstTrain_26 : decode cX6_firstTrain 26 = .ok (.if_icmp .eq 42, 3) := by decide +kernel
theorem dX6_firstTrain_29 : decode cX6_firstTrain 29 = .ok (.iload 4, 2) := by decide +kernel
theorem dX6_firstTrain_31 : decode cX6_firstTrain 31 = .ok (.aload_n 0, 1) := by decide +kernel
theorem dX6_firstTrain_32 : decode cX6_firstTrain 32 = .ok (.getfield 21, 3) := by decide +kernel
theorem dX6_firstTrain_35 : decode cX6_firstTrain 35 = .ok (.aload_n 0, 1) := by decide +kernel
theorem dX6_firstTrain_36 : decode cX6_firstTrain 36 = .ok (.getfield 71, 3) := by decide +kernel
theorem dX6_firstTrain_39 : decode cX6_firstTrain 39 = .ok (.iconst 1, 1) := by decide +kernel
theorem dX6_firstTrain_40 : decode cX6_firstTrain 40 = .ok (.isub, 1) := by decide +kernel
theorem dX6_firstTrain_41 : decode cX6_firstTrain 41 = .ok (.bipush 10, 2) := by decide +kernel
theorem dX6_firstTrain_43 : decode cX6_firstTrain 43 = .ok (.imul, 1) := by decide +kernel
theorem dX6_firstTrain_44 : decode cX6_firstTrain 44 = .ok (.iload_n 3, 1) := by decide +kernel
theorem dX6_firstTrain_45 : decode cX6_firstTrain 45 = .ok (.iadd, 1) := by decide +kernel
theorem dX6_firstTrain_46 : decode cX6_firstTrain 46 = .ok (.iaload, 1) := by decide +kernel
theorem dX6_firstTrain_47 : decode cX6_firstTrain 47 = .ok (.if_icmp .gt 21, 3) := by decide +kernel
theorem dX6_firstTrain_50 : decode cX6_firstTrain 50 = .ok (.aload_n 0, 1) := by decide +kernel
theorem dX6_firstTrain_51 : decode cX6_firstTrain 51 = .ok (.getfield 11, 3) := by decide +kernel
theorem dX6_firstTrain_54 : decode cX6_firstTrain 54 = .ok (.iload_n 3, 1) := by decide +kernel
theorem dX6_firstTrain_55 : decode cX6_firstTrain 55 = .ok (.aaload, 1) := by decide +kernel
theorem dX6_firstTrain_56 : decode cX6_firstTrain 56 = .ok (.getfield 91, 3) := by decide +kernel
theorem dX6_firstTrain_59 : decode cX6_firstTrain 59 = .ok (.iload 4, 2) := by decide +kernel
theorem dX6_firstTrain_61 : decode cX6_firstTrain 61 = .ok (.iaload, 1) := by decide +kernel
theorem dX6_firstTrain_62 : decode cX6_firstTrain 62 = .ok (.iload_n 2, 1) := by decide +kernel
theorem dX6_firstTrain_63 : decode cX6_firstTrain 63 = .ok (.if_icmp .lt 5, 3) := by decide +kernel
theorem dX6_firstTrain_66 : decode cX6_firstTrain 66 = .ok (.iload_n 3, 1) := by decide +kernel
theorem dX6_firstTrain_67 : decode cX6_firstTrain 67 = .ok (.ireturn, 1) := by decide +kernel
theorem dX6_firstTrain_68 : decode cX6_firstTrain 68 = .ok (.iinc 3 1, 3) := by decide +kernel
theorem dX6_firstTrain_71 : decode cX6_firstTrain 71 = .ok (.goto (-69), 3) := by decide +kernel
theorem dX6_firstTrain_74 : decode cX6_firstTrain 74 = .ok (.iconst (-1), 1) := by decide +kernel
theorem dX6_firstTrain_75 : decode cX6_firstTrain 75 = .ok (.ireturn, 1) := by decide +kernel
theorem dX6_chooseTrains_0 : decode cX6_chooseTrains 0 = .ok (.aload_n 0, 1) := by decide +kernel
theorem dX6_chooseTrains_1 : decode cX6_chooseTrains 1 = .ok (.getfield 24, 3) := by decide +kernel
theorem dX6_chooseTrains_4 : decode cX6_chooseTrains 4 = .ok (.iconst 0, 1) := by decide +kernel
theorem dX6_chooseTrains_5 : decode cX6_chooseTrains 5 = .ok (.aload_n 0, 1) := by decide +kernel
theorem dX6_chooseTrains_6 : decode cX6_chooseTrains 6 = .ok (.iload_n 1, 1) := by decide +kernel
theorem dX6_chooseTrains_7 : decode cX6_chooseTrains 7 = .ok (.iload_n 2, 1) := by decide +kernel
theorem dX6_chooseTrains_8 : decode cX6_chooseTrains 8 = .ok (.invokevirtual 118, 3) := by decide +kernel
theorem dX6_chooseTrains_11 : decode cX6_chooseTrains 11 = .ok (.iconst 0, 1) := by decide +kernel
theorem dX6_chooseTrains_12 : decode cX6_chooseTrains 12 = .ok (.invokestatic 131, 3) := by decide +kernel
theorem dX6_chooseTrains_15 : decode cX6_chooseTrains 15 = .ok (.iastore, 1) := by decide +kernel
theorem dX6_chooseTrains_16 : decode cX6_chooseTrains 16 = .ok (.aload_n 0, 1) := by decide +kernel
theorem dX6_chooseTrains_17 : decode cX6_chooseTrains 17 = .ok (.getfield 30, 3) := by decide +kernel
theorem dX6_chooseTrains_20 : decode cX6_chooseTrains 20 = .ok (.iconst 0, 1) := by decide +kernel
theorem dX6_chooseTrains_21 : decode cX6_chooseTrains 21 = .ok (.aload_n 0, 1) := by decide +kernel
theorem dX6_chooseTrains_22 : decode cX6_chooseTrains 22 = .ok (.getfield 11, 3) := by decide +kernel
theorem dX6_chooseTrains_25 : decode cX6_chooseTrains 25 = .ok (.aload_n 0, 1) := by decide +kernel
theorem dX6_chooseTrains_26 : decode cX6_chooseTrains 26 = .ok (.getfield 24, 3) := by decide +kernel
theorem dX6_chooseTrains_29 : decode cX6_chooseTrains 29 = .ok (.iconst 0, 1) := by decide +kernel
theorem dX6_chooseTrains_30 : decode cX6_chooseTrains 30 = .ok (.iaload, 1) := by decide +kernel
theorem dX6_chooseTrains_31 : decode cX6_chooseTrains 31 = .ok (.aaload, 1) := by decide +kernel
theorem dX6_chooseTrains_32 : decode cX6_chooseTrains 32 = .ok (.getfield 124, 3) := by decide +kernel
theorem dX6_chooseTrains_35 : decode cX6_chooseTrains 35 = .ok (.iload_n 1, 1) := by decide +kernel
theorem dX6_chooseTrains_36 : decode cX6_chooseTrains 36 = .ok (.iaload, 1) := by decide +kernel
theorem dX6_chooseTrains_37 : decode cX6_chooseTrains 37 = .ok (.iastore, 1) := by decide +kernel
theorem dX6_chooseTrains_38 : decode cX6_chooseTrains 38 = .ok (.iconst 1, 1) := by decide +kernel
theorem dX6_chooseTrains_39 : decode cX6_chooseTrains 39 = .ok (.istore_n 3, 1) := by decide +kernel
theorem dX6_chooseTrains_40 : decode cX6_chooseTrains 40 = .ok (.iload_n 3, 1) := by decide +kernel
theorem dX6_chooseTrains_41 : decode cX6_chooseTrains 41 = .ok (.aload_n 0, 1) := by decide +kernel
theorem dX6_chooseTrains_42 : decode cX6_chooseTrains 42 = .ok (.getfield 71, 3) := by decide +kernel
theorem dX6_chooseTrains_45 : decode cX6_chooseTrains 45 = .ok (.if_icmp .ge 14, 3) := by decide +kernel
theorem dX6_chooseTrains_48 : decode cX6_chooseTrains 48 = .ok (.aload_n 0, 1) := by decide +kernel
theorem dX6_chooseTrains_49 : decode cX6_chooseTrains 49 = .ok (.iload_n 3, 1) := by decide +kernel
theorem dX6_chooseTrains_50 : decode cX6_chooseTrains 50 = .ok (.invokevirtual 136, 3) := by decide +kernel
theorem dX6_chooseTrains_53 : decode cX6_chooseTrains 53 = .ok (.iinc 3 1, 3) := by decide +kernel
theorem dX6_chooseTrains_56 : decode cX6_chooseTrains 56 = .ok (.goto (-16), 3) := by decide +kernel
theorem dX6_chooseTrains_59 : decode cX6_chooseTrains 59 = .ok (.return_, 1) := by decide +kernel
theorem dX6_chooseTrain_0 : decode cX6_chooseTrain 0 = .ok (.iconst 0, 1) := by decide +kernel
theorem dX6_chooseTrain_1 : decode cX6_chooseTrain 1 = .ok (.istore_n 2, 1) := by decide +kernel
theorem dX6_chooseTrain_2 : decode cX6_chooseTrain 2 = .ok (.iload_n 2, 1) := by decide +kernel
theorem dX6_chooseTrain_3 : decode cX6_chooseTrain 3 = .ok (.aload_n 0, 1) := by decide +kernel
theorem dX6_chooseTrain_4 : decode cX6_chooseTrain 4 = .ok (.getfield 42, 3) := by decide +kernel
theorem dX6_chooseTrain_7 : decode cX6_chooseTrain 7 = .ok (.if_icmp .ge 84, 3) := by decide +kernel
theorem dX6_chooseTrain_10 : decode cX6_chooseTrain 10 = .ok (.aload_n 0, 1) := by decide +kernel
theorem dX6_chooseTrain_11 : decode cX6_chooseTrain 11 = .ok (.getfield 21, 3) := by decide +kernel
theorem dX6_chooseTrain_14 : decode cX6_chooseTrain 14 = .ok (.aload_n 0, 1) := by decide +kernel
theorem dX6_chooseTrain_15 : decode cX6_chooseTrain 15 = .ok (.getfield 71, 3) := by decide +kernel
theorem dX6_chooseTrain_18 : decode cX6_chooseTrain 18 = .ok (.iconst 1, 1) := by decide +kernel
theorem dX6_chooseTrain_19 : decode cX6_chooseTrain 19 = .ok (.isub, 1) := by decide +kernel
theorem dX6_chooseTrain_20 : decode cX6_chooseTrain 20 = .ok (.iload_n 1, 1) := by decide +kernel
theorem dX6_chooseTrain_21 : decode cX6_chooseTrain 21 = .ok (.isub, 1) := by decide +kernel
theorem dX6_chooseTrain_22 : decode cX6_chooseTrain 22 = .ok (.bipush 10, 2) := by decide +kernel
theorem dX6_chooseTrain_24 : decode cX6_chooseTrain 24 = .ok (.imul, 1) := by decide +kernel
theorem dX6_chooseTrain_25 : decode cX6_chooseTrain 25 = .ok (.iload_n 2, 1) := by decide +kernel
theorem dX6_chooseTrain_26 : decode cX6_chooseTrain 26 = .ok (.iadd, 1) := by decide +kernel
theorem dX6_chooseTrain_27 : decode cX6_chooseTrain 27 = .ok (.iaload, 1) := by decide +kernel
theorem dX6_chooseTrain_28 : decode cX6_chooseTrain 28 = .ok (.istore_n 3, 1) := by decide +kernel
theorem dX6_chooseTrain_29 : decode cX6_chooseTrain 29 = .ok (.aload_n 0, 1) := by decide +kernel
theorem dX6_chooseTrain_30 : decode cX6_chooseTrain 30 = .ok (.aload_n 0, 1) := by decide +kernel
theorem dX6_chooseTrain_31 : decode cX6_chooseTrain 31 = .ok (.getfield 11, 3) := by decide +kernel
theorem dX6_chooseTrain_34 : decode cX6_chooseTrain 34 = .ok (.aload_n 0, 1) := by decide +kernel
theorem dX6_chooseTrain_35 : decode cX6_chooseTrain 35 = .ok (.getfield 24, 3) := by decide +kernel
theorem dX6_chooseTrain_38 : decode cX6_chooseTrain 38 = .ok (.iload_n 1, 1) := by decide +kernel
theorem dX6_chooseTrain_39 : decode cX6_chooseTrain 39 = .ok (.iconst 1, 1) := by decide +kernel
theorem dX6_chooseTrain_40 : decode cX6_chooseTrain 40 = .ok (.isub, 1) := by decide +kernel
theorem dX6_chooseTrain_41 : decode cX6_chooseTrain 41 = .ok (.iaload, 1) := by decide +kernel
theorem dX6_chooseTrain_42 : decode cX6_chooseTrain 42 = .ok (.aaload, 1) := by decide +kernel
theorem dX6_chooseTrain_43 : decode cX6_chooseTrain 43 = .ok (.aload_n 0, 1) := by decide +kernel
theorem dX6_chooseTrain_44 : decode cX6_chooseTrain 44 = .ok (.getfield 30, 3) := by decide +kernel
theorem dX6_chooseTrain_47 : decode cX6_chooseTrain 47 = .ok (.iload_n 1, 1) := by decide +kernel
theorem dX6_chooseTrain_48 : decode cX6_chooseTrain 48 = .ok (.iconst 1, 1) := by decide +kernel
theorem dX6_chooseTrain_49 : decode cX6_chooseTrain 49 = .ok (.isub, 1) := by decide +kernel
theorem dX6_chooseTrain_50 : decode cX6_chooseTrain 50 = .ok (.iaload, 1) := by decide +kernel
theorem dX6_chooseTrain_51 : decode cX6_chooseTrain 51 = .ok (.aload_n 0, 1) := by decide +kernel
theorem dX6_chooseTrain_52 : decode cX6_chooseTrain 52 = .ok (.getfield 11, 3) := by decide +kernel
theorem dX6_chooseTrain_55 : decode cX6_chooseTrain 55 = .ok (.iload_n 2, 1) := by decide +kernel
theorem dX6_chooseTrain_56 : decode cX6_chooseTrain 56 = .ok (.aaload, 1) := by decide +kernel
theorem dX6_chooseTrain_57 : decode cX6_chooseTrain 57 = .ok (.iload_n 3, 1) := by decide +kernel
theorem dX6_chooseTrain_58 : decode cX6_chooseTrain 58 = .ok (.invokevirtual 139, 3) := by decide +kernel
theorem dX6_chooseTrain_61 : decode cX6_chooseTrain 61 = .ok (.istore 4, 2) := by decide +kernel
theorem dX6_chooseTrain_63 : decode cX6_chooseTrain 63 = .ok (.iload 4, 2) := by decide +kernel
theorem dX6_chooseTrain_65 : decode cX6_chooseTrain 65 = .ok (.iconst (-1), 1) := by decide +kernel
theorem dX6_chooseTrain_66 : decode cX6_chooseTrain 66 = .ok (.if_icmp .eq 19, 3) := by decide +kernel
theorem dX6_chooseTrain_69 : decode cX6_chooseTrain 69 = .ok (.aload_n 0, 1) := by decide +kernel
theorem dX6_chooseTrain_70 : decode cX6_chooseTrain 70 = .ok (.getfield 24, 3) := by decide +kernel
theorem dX6_chooseTrain_73 : decode cX6_chooseTrain 73 = .ok (.iload_n 1, 1) := by decide +kernel
theorem dX6_chooseTrain_74 : decode cX6_chooseTrain 74 = .ok (.iload_n 2, 1) := by decide +kernel
theorem dX6_chooseTrain_75 : decode cX6_chooseTrain 75 = .ok (.iastore, 1) := by decide +kernel
theorem dX6_chooseTrain_76 : decode cX6_chooseTrain 76 = .ok (.aload_n 0, 1) := by decide +kernel
theorem dX6_chooseTrain_77 : decode cX6_chooseTrain 77 = .ok (.getfield 30, 3) := by decide +kernel
theorem dX6_chooseTrain_80 : decode cX6_chooseTrain 80 = .ok (.iload_n 1, 1) := by decide +kernel
theorem dX6_chooseTrain_81 : decode cX6_chooseTrain 81 = .ok (.iload 4, 2) := by decide +kernel
theorem dX6_chooseTrain_83 : decode cX6_chooseTrain 83 = .ok (.iastore, 1) := by decide +kernel
theorem dX6_chooseTrain_84 : decode cX6_chooseTrain 84 = .ok (.return_, 1) := by decide +kernel
theorem dX6_chooseTrain_85 : decode cX6_chooseTrain 85 = .ok (.iinc 2 1, 3) := by decide +kernel
theorem dX6_chooseTrain_88 : decode cX6_chooseTrain 88 = .ok (.goto (-86), 3) := by decide +kernel
theorem dX6_chooseTrain_91 : decode cX6_chooseTrain 91 = .ok (.return_, 1) := by decide +kernel
theorem dX6_firstBoard_0 : decode cX6_firstBoard 0 = .ok (.iconst (-1), 1) := by decide +kernel
theorem dX6_firstBoard_1 : decode cX6_firstBoard 1 = .ok (.istore 5, 2) := by decide +kernel
theorem dX6_firstBoard_3 : decode cX6_firstBoard 3 = .ok (.iload_n 2, 1) := by decide +kernel
theorem dX6_firstBoard_4 : decode cX6_firstBoard 4 = .ok (.iconst 1, 1) := by decide +kernel
theorem dX6_firstBoard_5 : decode cX6_firstBoard 5 = .ok (.iadd, 1) := by decide +kernel
theorem dX6_firstBoard_6 : decode cX6_firstBoard 6 = .ok (.istore 6, 2) := by decide +kernel
theorem dX6_firstBoard_8 : decode cX6_firstBoard 8 = .ok (.iload 6, 2) := by decide +kernel
theorem dX6_firstBoard_10 : decode cX6_firstBoard 10 = .ok (.aload_n 1, 1) := by decide +kernel
theorem dX6_firstBoard_11 : decode cX6_firstBoard 11 = .ok (.getfield 111, 3) := by decide +kernel
theorem dX6_firstBoard_14 : decode cX6_firstBoard 14 = .ok (.if_icmp .ge 56, 3) := by decide +kernel
theorem dX6_firstBoard_17 : decode cX6_firstBoard 17 = .ok (.aload_n 0, 1) := by decide +kernel
theorem dX6_firstBoard_18 : decode cX6_firstBoard 18 = .ok (.aload_n 1, 1) := by decide +kernel
theorem dX6_firstBoard_19 : decode cX6_firstBoard 19 = .ok (.iload 6, 2) := by decide +kernel
theorem dX6_firstBoard_21 : decode cX6_firstBoard 21 = .ok (.aload_n 3, 1) := by decide +kernel
theorem dX6_firstBoard_22 : decode cX6_firstBoard 22 = .ok (.iload 4, 2) := by decide +kernel
theorem dX6_firstBoard_24 : decode cX6_firstBoard 24 = .ok (.invokevirtual 127, 3) := by decide +kernel
theorem dX6_firstBoard_27 : decode cX6_firstBoard 27 = .ok (.ifCond .eq 37, 3) := by decide +kernel
theorem dX6_firstBoard_30 : decode cX6_firstBoard 30 = .ok (.aload_n 3, 1) := by decide +kernel
theorem dX6_firstBoard_31 : decode cX6_firstBoard 31 = .ok (.getfield 124, 3) := by decide +kernel
theorem dX6_firstBoard_34 : decode cX6_firstBoard 34 = .ok (.aload_n 1, 1) := by decide +kernel
theorem dX6_firstBoard_35 : decode cX6_firstBoard 35 = .ok (.getfield 88, 3) := by decide +kernel
theorem dX6_firstBoard_38 : decode cX6_firstBoard 38 = .ok (.iload 6, 2) := by decide +kernel
theorem dX6_firstBoard_40 : decode cX6_firstBoard 40 = .ok (.iaload, 1) := by decide +kernel
theorem dX6_firstBoard_41 : decode cX6_firstBoard 41 = .ok (.iaload, 1) := by decide +kernel
theorem dX6_firstBoard_42 : decode cX6_firstBoard 42 = .ok (.istore 7, 2) := by decide +kernel
theorem dX6_firstBoard_44 : decode cX6_firstBoard 44 = .ok (.iload 5, 2) := by decide +kernel
theorem dX6_firstBoard_46 : decode cX6_firstBoard 46 = .ok (.iconst (-1), 1) := by decide +kernel
theorem dX6_firstBoard_47 : decode cX6_firstBoard 47 = .ok (.if_icmp .ne 8, 3) := by decide +kernel
theorem dX6_firstBoard_50 : decode cX6_firstBoard 50 = .ok (.iload 7, 2) := by decide +kernel
theorem dX6_firstBoard_52 : decode cX6_firstBoard 52 = .ok (.goto 10, 3) := by decide +kernel
theorem dX6_firstBoard_55 : decode cX6_firstBoard 55 = .ok (.iload 5, 2) := by decide +kernel
theorem dX6_firstBoard_57 : decode cX6_firstBoard 57 = .ok (.iload 7, 2) := by decide +kernel
theorem dX6_firstBoard_59 : decode cX6_firstBoard 59 = .ok (.invokestatic 143, 3) := by decide +kernel
theorem dX6_firstBoard_62 : decode cX6_firstBoard 62 = .ok (.istore 5, 2) := by decide +kernel
theorem dX6_firstBoard_64 : decode cX6_firstBoard 64 = .ok (.iinc 6 1, 3) := by decide +kernel
theorem dX6_firstBoard_67 : decode cX6_firstBoard 67 = .ok (.goto (-59), 3) := by decide +kernel
theorem dX6_firstBoard_70 : decode cX6_firstBoard 70 = .ok (.iload 5, 2) := by decide +kernel
theorem dX6_firstBoard_72 : decode cX6_firstBoard 72 = .ok (.ireturn, 1) := by decide +kernel
theorem dX6_chooseStations_0 : decode cX6_chooseStations 0 = .ok (.aload_n 0, 1) := by decide +kernel
theorem dX6_chooseStations_1 : decode cX6_chooseStations 1 = .ok (.getfield 71, 3) := by decide +kernel
theorem dX6_chooseStations_4 : decode cX6_chooseStations 4 = .ok (.iconst 1, 1) := by decide +kernel
theorem dX6_chooseStations_5 : decode cX6_chooseStations 5 = .ok (.isub, 1) := by decide +kernel
theorem dX6_chooseStations_6 : decode cX6_chooseStations 6 = .ok (.istore_n 3, 1) := by decide +kernel
theorem dX6_chooseStations_7 : decode cX6_chooseStations 7 = .ok (.aload_n 0, 1) := by decide +kernel
theorem dX6_chooseStations_8 : decode cX6_chooseStations 8 = .ok (.getfield 33, 3) := by decide +kernel
theorem dX6_chooseStations_11 : decode cX6_chooseStations 11 = .ok (.iload_n 3, 1) := by decide +kernel
theorem dX6_chooseStations_12 : decode cX6_chooseStations 12 = .ok (.aload_n 0, 1) := by decide +kernel
theorem dX6_chooseStations_13 : decode cX6_chooseStations 13 = .ok (.getfield 11, 3) := by decide +kernel
theorem dX6_chooseStations_16 : decode cX6_chooseStations 16 = .ok (.aload_n 0, 1) := by decide +kernel
theorem dX6_chooseStations_17 : decode cX6_chooseStations 17 = .ok (.getfield 24, 3) := by decide +kernel
theorem dX6_chooseStations_20 : decode cX6_chooseStations 20 = .ok (.iload_n 3, 1) := by decide +kernel
theorem dX6_chooseStations_21 : decode cX6_chooseStations 21 = .ok (.iaload, 1) := by decide +kernel
theorem dX6_chooseStations_22 : decode cX6_chooseStations 22 = .ok (.aaload, 1) := by decide +kernel
theorem dX6_chooseStations_23 : decode cX6_chooseStations 23 = .ok (.getfield 124, 3) := by decide +kernel
theorem dX6_chooseStations_26 : decode cX6_chooseStations 26 = .ok (.iload_n 2, 1) := by decide +kernel
theorem dX6_chooseStations_27 : decode cX6_chooseStations 27 = .ok (.iaload, 1) := by decide +kernel
theorem dX6_chooseStations_28 : decode cX6_chooseStations 28 = .ok (.iastore, 1) := by decide +kernel
theorem dX6_chooseStations_29 : decode cX6_chooseStations 29 = .ok (.aload_n 0, 1) := by decide +kernel
theorem dX6_chooseStations_30 : decode cX6_chooseStations 30 = .ok (.getfield 27, 3) := by decide +kernel
theorem dX6_chooseStations_33 : decode cX6_chooseStations 33 = .ok (.iload_n 3, 1) := by decide +kernel
theorem dX6_chooseStations_34 : decode cX6_chooseStations 34 = .ok (.aload_n 0, 1) := by decide +kernel
theorem dX6_chooseStations_35 : decode cX6_chooseStations 35 = .ok (.getfield 33, 3) := by decide +kernel
theorem dX6_chooseStations_38 : decode cX6_chooseStations 38 = .ok (.iload_n 3, 1) := by decide +kernel
theorem dX6_chooseStations_39 : decode cX6_chooseStations 39 = .ok (.iaload, 1) := by decide +kernel
theorem dX6_chooseStations_40 : decode cX6_chooseStations 40 = .ok (.iconst 1, 1) := by decide +kernel
theorem dX6_chooseStations_41 : decode cX6_chooseStations 41 = .ok (.isub, 1) := by decide +kernel
theorem dX6_chooseStations_42 : decode cX6_chooseStations 42 = .ok (.iastore, 1) := by decide +kernel
theorem dX6_chooseStations_43 : decode cX6_chooseStations 43 = .ok (.iload_n 3, 1) := by decide +kernel
theorem dX6_chooseStations_44 : decode cX6_chooseStations 44 = .ok (.iconst 1, 1) := by decide +kernel
theorem dX6_chooseStations_45 : decode cX6_chooseStations 45 = .ok (.isub, 1) := by decide +kernel
theorem dX6_chooseStations_46 : decode cX6_chooseStations 46 = .ok (.istore 4, 2) := by decide +kernel
theorem dX6_chooseStations_48 : decode cX6_chooseStations 48 = .ok (.iload 4, 2) := by decide +kernel
theorem dX6_chooseStations_50 : decode cX6_chooseStations 50 = .ok (.ifCond .le 55, 3) := by decide +kernel
theorem dX6_chooseStations_53 : decode cX6_chooseStations 53 = .ok (.aload_n 0, 1) := by decide +kernel
theorem dX6_chooseStations_54 : decode cX6_chooseStations 54 = .ok (.getfield 27, 3) := by decide +kernel
theorem dX6_chooseStations_57 : decode cX6_chooseStations 57 = .ok (.iload 4, 2) := by decide +kernel
theorem dX6_chooseStations_59 : decode cX6_chooseStations 59 = .ok (.aload_n 0, 1) := by decide +kernel
theorem dX6_chooseStations_60 : decode cX6_chooseStations 60 = .ok (.aload_n 0, 1) := by decide +kernel
theorem dX6_chooseStations_61 : decode cX6_chooseStations 61 = .ok (.getfield 11, 3) := by decide +kernel
theorem dX6_chooseStations_64 : decode cX6_chooseStations 64 = .ok (.aload_n 0, 1) := by decide +kernel
theorem dX6_chooseStations_65 : decode cX6_chooseStations 65 = .ok (.getfield 24, 3) := by decide +kernel
theorem dX6_chooseStations_68 : decode cX6_chooseStations 68 = .ok (.iload 4, 2) := by decide +kernel
theorem dX6_chooseStations_70 : decode cX6_chooseStations 70 = .ok (.iaload, 1) := by decide +kernel
theorem dX6_chooseStations_71 : decode cX6_chooseStations 71 = .ok (.aaload, 1) := by decide +kernel
theorem dX6_chooseStations_72 : decode cX6_chooseStations 72 = .ok (.aload_n 0, 1) := by decide +kernel
theorem dX6_chooseStations_73 : decode cX6_chooseStations 73 = .ok (.getfield 11, 3) := by decide +kernel
theorem dX6_chooseStations_76 : decode cX6_chooseStations 76 = .ok (.aload_n 0, 1) := by decide +kernel
theorem dX6_chooseStations_77 : decode cX6_chooseStations 77 = .ok (.getfield 24, 3) := by decide +kernel
theorem dX6_chooseStations_80 : decode cX6_chooseStations 80 = .ok (.iload 4, 2) := by decide +kernel
theorem dX6_chooseStations_82 : decode cX6_chooseStations 82 = .ok (.iconst 1, 1) := by decide +kernel
theorem dX6_chooseStations_83 : decode cX6_chooseStations 83 = .ok (.iadd, 1) := by decide +kernel
theorem dX6_chooseStations_84 : decode cX6_chooseStations 84 = .ok (.iaload, 1) := by decide +kernel
theorem dX6_chooseStations_85 : decode cX6_chooseStations 85 = .ok (.aaload, 1) := by decide +kernel
theorem dX6_chooseStations_86 : decode cX6_chooseStations 86 = .ok (.aload_n 0, 1) := by decide +kernel
theorem dX6_chooseStations_87 : decode cX6_chooseStations 87 = .ok (.getfield 27, 3) := by decide +kernel
theorem dX6_chooseStations_90 : decode cX6_chooseStations 90 = .ok (.iload 4, 2) := by decide +kernel
theorem dX6_chooseStations_92 : decode cX6_chooseStations 92 = .ok (.iconst 1, 1) := by decide +kernel
theorem dX6_chooseStations_93 : decode cX6_chooseStations 93 = .ok (.iadd, 1) := by decide +kernel
theorem dX6_chooseStations_94 : decode cX6_chooseStations 94 = .ok (.iaload, 1) := by decide +kernel
theorem dX6_chooseStations_95 : decode cX6_chooseStations 95 = .ok (.invokevirtual 146, 3) := by decide +kernel
theorem dX6_chooseStations_98 : decode cX6_chooseStations 98 = .ok (.iastore, 1) := by decide +kernel
theorem dX6_chooseStations_99 : decode cX6_chooseStations 99 = .ok (.iinc 4 (-1), 3) := by decide +kernel
theorem dX6_chooseStations_102 : decode cX6_chooseStations 102 = .ok (.goto (-54), 3) := by decide +kernel
theorem dX6_chooseStations_105 : decode cX6_chooseStations 105 = .ok (.aload_n 0, 1) := by decide +kernel
theorem dX6_chooseStations_106 : decode cX6_chooseStations 106 = .ok (.getfield 30, 3) := by decide +kernel
theorem dX6_chooseStations_109 : decode cX6_chooseStations 109 = .ok (.iconst 0, 1) := by decide +kernel
theorem dX6_chooseStations_110 : decode cX6_chooseStations 110 = .ok (.aload_n 0, 1) := by decide +kernel
theorem dX6_chooseStations_111 : decode cX6_chooseStations 111 = .ok (.getfield 11, 3) := by decide +kernel
theorem dX6_chooseStations_114 : decode cX6_chooseStations 114 = .ok (.aload_n 0, 1) := by decide +kernel
theorem dX6_chooseStations_115 : decode cX6_chooseStations 115 = .ok (.getfield 24, 3) := by decide +kernel
theorem dX6_chooseStations_118 : decode cX6_chooseStations 118 = .ok (.iconst 0, 1) := by decide +kernel
theorem dX6_chooseStations_119 : decode cX6_chooseStations 119 = .ok (.iaload, 1) := by decide +kernel
theorem dX6_chooseStations_120 : decode cX6_chooseStations 120 = .ok (.aaload, 1) := by decide +kernel
theorem dX6_chooseStations_121 : decode cX6_chooseStations 121 = .ok (.getfield 124, 3) := by decide +kernel
theorem dX6_chooseStations_124 : decode cX6_chooseStations 124 = .ok (.iload_n 1, 1) := by decide +kernel
theorem dX6_chooseStations_125 : decode cX6_chooseStations 125 = .ok (.iaload, 1) := by decide +kernel
theorem dX6_chooseStations_126 : decode cX6_chooseStations 126 = .ok (.iastore, 1) := by decide +kernel
theorem dX6_chooseStations_127 : decode cX6_chooseStations 127 = .ok (.iconst 0, 1) := by decide +kernel
theorem dX6_chooseStations_128 : decode cX6_chooseStations 128 = .ok (.istore 4, 2) := by decide +kernel
theorem dX6_chooseStations_130 : decode cX6_chooseStations 130 = .ok (.iload 4, 2) := by decide +kernel
theorem dX6_chooseStations_132 : decode cX6_chooseStations 132 = .ok (.iload_n 3, 1) := by decide +kernel
theorem dX6_chooseStations_133 : decode cX6_chooseStations 133 = .ok (.if_icmp .ge 72, 3) := by decide +kernel
theorem dX6_chooseStations_136 : decode cX6_chooseStations 136 = .ok (.aload_n 0, 1) := by decide +kernel
theorem dX6_chooseStations_137 : decode cX6_chooseStations 137 = .ok (.getfield 33, 3) := by decide +kernel
theorem dX6_chooseStations_140 : decode cX6_chooseStations 140 = .ok (.iload 4, 2) := by decide +kernel
theorem dX6_chooseStations_142 : decode cX6_chooseStations 142 = .ok (.aload_n 0, 1) := by decide +kernel
theorem dX6_chooseStations_143 : decode cX6_chooseStations 143 = .ok (.iload 4, 2) := by decide +kernel
theorem dX6_chooseStations_145 : decode cX6_chooseStations 145 = .ok (.invokevirtual 150, 3) := by decide +kernel
theorem dX6_chooseStations_148 : decode cX6_chooseStations 148 = .ok (.iastore, 1) := by decide +kernel
theorem dX6_chooseStations_149 : decode cX6_chooseStations 149 = .ok (.aload_n 0, 1) := by decide +kernel
theorem dX6_chooseStations_150 : decode cX6_chooseStations 150 = .ok (.getfield 30, 3) := by decide +kernel
theorem dX6_chooseStations_153 : decode cX6_chooseStations 153 = .ok (.iload 4, 2) := by decide +kernel
theorem dX6_chooseStations_155 : decode cX6_chooseStations 155 = .ok (.iconst 1, 1) := by decide +kernel
theorem dX6_chooseStations_156 : decode cX6_chooseStations 156 = .ok (.iadd, 1) := by decide +kernel
theorem dX6_chooseStations_157 : decode cX6_chooseStations 157 = .ok (.aload_n 0, 1) := by decide +kernel
theorem dX6_chooseStations_158 : decode cX6_chooseStations 158 = .ok (.getfield 11, 3) := by decide +kernel
theorem dX6_chooseStations_161 : decode cX6_chooseStations 161 = .ok (.aload_n 0, 1) := by decide +kernel
theorem dX6_chooseStations_162 : decode cX6_chooseStations 162 = .ok (.getfield 24, 3) := by decide +kernel
theorem dX6_chooseStations_165 : decode cX6_chooseStations 165 = .ok (.iload 4, 2) := by decide +kernel
theorem dX6_chooseStations_167 : decode cX6_chooseStations 167 = .ok (.iconst 1, 1) := by decide +kernel
theorem dX6_chooseStations_168 : decode cX6_chooseStations 168 = .ok (.iadd, 1) := by decide +kernel
theorem dX6_chooseStations_169 : decode cX6_chooseStations 169 = .ok (.iaload, 1) := by decide +kernel
theorem dX6_chooseStations_170 : decode cX6_chooseStations 170 = .ok (.aaload, 1) := by decide +kernel
theorem dX6_chooseStations_171 : decode cX6_chooseStations 171 = .ok (.getfield 124, 3) := by decide +kernel
theorem dX6_chooseStations_174 : decode cX6_chooseStations 174 = .ok (.aload_n 0, 1) := by decide +kernel
theorem dX6_chooseStations_175 : decode cX6_chooseStations 175 = .ok (.getfield 11, 3) := by decide +kernel
theorem dX6_chooseStations_178 : decode cX6_chooseStations 178 = .ok (.aload_n 0, 1) := by decide +kernel
theorem dX6_chooseStations_179 : decode cX6_chooseStations 179 = .ok (.getfield 24, 3) := by decide +kernel
theorem dX6_chooseStations_182 : decode cX6_chooseStations 182 = .ok (.iload 4, 2) := by decide +kernel
theorem dX6_chooseStations_184 : decode cX6_chooseStations 184 = .ok (.iaload, 1) := by decide +kernel
theorem dX6_chooseStations_185 : decode cX6_chooseStations 185 = .ok (.aaload, 1) := by decide +kernel
theorem dX6_chooseStations_186 : decode cX6_chooseStations 186 = .ok (.getfield 88, 3) := by decide +kernel
theorem dX6_chooseStations_189 : decode cX6_chooseStations 189 = .ok (.aload_n 0, 1) := by decide +kernel
theorem dX6_chooseStations_190 : decode cX6_chooseStations 190 = .ok (.getfield 33, 3) := by decide +kernel
theorem dX6_chooseStations_193 : decode cX6_chooseStations 193 = .ok (.iload 4, 2) := by decide +kernel
theorem dX6_chooseStations_195 : decode cX6_chooseStations 195 = .ok (.iaload, 1) := by decide +kernel
theorem dX6_chooseStations_196 : decode cX6_chooseStations 196 = .ok (.iaload, 1) := by decide +kernel
theorem dX6_chooseStations_197 : decode cX6_chooseStations 197 = .ok (.iaload, 1) := by decide +kernel
theorem dX6_chooseStations_198 : decode cX6_chooseStations 198 = .ok (.iastore, 1) := by decide +kernel
theorem dX6_chooseStations_199 : decode cX6_chooseStations 199 = .ok (.iinc 4 1, 3) := by decide +kernel
theorem dX6_chooseStations_202 : decode cX6_chooseStations 202 = .ok (.goto (-72), 3) := by decide +kernel
theorem dX6_chooseStations_205 : decode cX6_chooseStations 205 = .ok (.return_, 1) := by decide +kernel
theorem dX6_limitBefore_0 : decode cX6_limitBefore 0 = .ok (.aload_n 1, 1) := by decide +kernel
theorem dX6_limitBefore_1 : decode cX6_limitBefore 1 = .ok (.getfield 111, 3) := by decide +kernel
theorem dX6_limitBefore_4 : decode cX6_limitBefore 4 = .ok (.iconst 1, 1) := by decide +kernel
theorem dX6_limitBefore_5 : decode cX6_limitBefore 5 = .ok (.isub, 1) := by decide +kernel
theorem dX6_limitBefore_6 : decode cX6_limitBefore 6 = .ok (.istore 4, 2) := by decide +kernel
theorem dX6_limitBefore_8 : decode cX6_limitBefore 8 = .ok (.iload 4, 2) := by decide +kernel
theorem dX6_limitBefore_10 : decode cX6_limitBefore 10 = .ok (.ifCond .le 21, 3) := by decide +kernel
theorem dX6_limitBefore_13 : decode cX6_limitBefore 13 = .ok (.aload_n 0, 1) := by decide +kernel
theorem dX6_limitBefore_14 : decode cX6_limitBefore 14 = .ok (.aload_n 1, 1) := by decide +kernel
theorem dX6_limitBefore_15 : decode cX6_limitBefore 15 = .ok (.iload 4, 2) := by decide +kernel
theorem dX6_limitBefore_17 : decode cX6_limitBefore 17 = .ok (.aload_n 2, 1) := by decide +kernel
theorem dX6_limitBefore_18 : decode cX6_limitBefore 18 = .ok (.iload_n 3, 1) := by decide +kernel
theorem dX6_limitBefore_19 : decode cX6_limitBefore 19 = .ok (.invokevirtual 127, 3) := by decide +kernel
theorem dX6_limitBefore_22 : decode cX6_limitBefore 22 = .ok (.ifCond .ne 9, 3) := by decide +kernel
theorem dX6_limitBefore_25 : decode cX6_limitBefore 25 = .ok (.iinc 4 (-1), 3) := by decide +kernel
theorem dX6_limitBefore_28 : decode cX6_limitBefore 28 = .ok (.goto (-20), 3) := by decide +kernel
theorem dX6_limitBefore_31 : decode cX6_limitBefore 31 = .ok (.iload 4, 2) := by decide +kernel
theorem dX6_limitBefore_33 : decode cX6_limitBefore 33 = .ok (.iconst 1, 1) := by decide +kernel
theorem dX6_limitBefore_34 : decode cX6_limitBefore 34 = .ok (.isub, 1) := by decide +kernel
theorem dX6_limitBefore_35 : decode cX6_limitBefore 35 = .ok (.ireturn, 1) := by decide +kernel
theorem dX6_leastChange_0 : decode cX6_leastChange 0 = .ok (.aload_n 0, 1) := by decide +kernel
theorem dX6_leastChange_1 : decode cX6_leastChange 1 = .ok (.getfield 11, 3) := by decide +kernel
theorem dX6_leastChange_4 : decode cX6_leastChange 4 = .ok (.aload_n 0, 1) := by decide +kernel
theorem dX6_leastChange_5 : decode cX6_leastChange 5 = .ok (.getfield 24, 3) := by decide +kernel
theorem dX6_leastChange_8 : decode cX6_leastChange 8 = .ok (.iload_n 1, 1) := by decide +kernel
theorem dX6_leastChange_9 : decode cX6_leastChange 9 = .ok (.iaload, 1) := by decide +kernel
theorem dX6_leastChange_10 : decode cX6_leastChange 10 = .ok (.aaload, 1) := by decide +kernel
theorem dX6_leastChange_11 : decode cX6_leastChange 11 = .ok (.astore_n 2, 1) := by decide +kernel
theorem dX6_leastChange_12 : decode cX6_leastChange 12 = .ok (.iconst (-1), 1) := by decide +kernel
theorem dX6_leastChange_13 : decode cX6_leastChange 13 = .ok (.istore_n 3, 1) := by decide +kernel
theorem dX6_leastChange_14 : decode cX6_leastChange 14 = .ok (.aload_n 0, 1) := by decide +kernel
theorem dX6_leastChange_15 : decode cX6_leastChange 15 = .ok (.getfield 30, 3) := by decide +kernel
theorem dX6_leastChange_18 : decode cX6_leastChange 18 = .ok (.iload_n 1, 1) := by decide +kernel
theorem dX6_leastChange_19 : decode cX6_leastChange 19 = .ok (.iaload, 1) := by decide +kernel
theorem dX6_leastChange_20 : decode cX6_leastChange 20 = .ok (.iconst 1, 1) := by decide +kernel
theorem dX6_leastChange_21 : decode cX6_leastChange 21 = .ok (.iadd, 1) := by decide +kernel
theorem dX6_leastChange_22 : decode cX6_leastChange 22 = .ok (.istore 4, 2) := by decide +kernel
theorem dX6_leastChange_24 : decode cX6_leastChange 24 = .ok (.iload 4, 2) := by decide +kernel
theorem dX6_leastChange_26 : decode cX6_leastChange 26 = .ok (.aload_n 2, 1) := by decide +kernel
theorem dX6_leastChange_27 : decode cX6_leastChange 27 = .ok (.getfield 111, 3) := by decide +kernel
theorem dX6_leastChange_30 : decode cX6_leastChange 30 = .ok (.if_icmp .ge 64, 3) := by decide +kernel
theorem dX6_leastChange_33 : decode cX6_leastChange 33 = .ok (.aload_n 0, 1) := by decide +kernel
theorem dX6_leastChange_34 : decode cX6_leastChange 34 = .ok (.aload_n 2, 1) := by decide +kernel
theorem dX6_leastChange_35 : decode cX6_leastChange 35 = .ok (.iload 4, 2) := by decide +kernel
theorem dX6_leastChange_37 : decode cX6_leastChange 37 = .ok (.aload_n 0, 1) := by decide +kernel
theorem dX6_leastChange_38 : decode cX6_leastChange 38 = .ok (.getfield 11, 3) := by decide +kernel
theorem dX6_leastChange_41 : decode cX6_leastChange 41 = .ok (.aload_n 0, 1) := by decide +kernel
theorem dX6_leastChange_42 : decode cX6_leastChange 42 = .ok (.getfield 24, 3) := by decide +kernel
theorem dX6_leastChange_45 : decode cX6_leastChange 45 = .ok (.iload_n 1, 1) := by decide +kernel
theorem dX6_leastChange_46 : decode cX6_leastChange 46 = .ok (.iconst 1, 1) := by decide +kernel
theorem dX6_leastChange_47 : decode cX6_leastChange 47 = .ok (.iadd, 1) := by decide +kernel
theorem dX6_leastChange_48 : decode cX6_leastChange 48 = .ok (.iaload, 1) := by decide +kernel
theorem dX6_leastChange_49 : decode cX6_leastChange 49 = .ok (.aaload, 1) := by decide +kernel
theorem dX6_leastChange_50 : decode cX6_leastChange 50 = .ok (.aload_n 0, 1) := by decide +kernel
theorem dX6_leastChange_51 : decode cX6_leastChange 51 = .ok (.getfield 27, 3) := by decide +kernel
theorem dX6_leastChange_54 : decode cX6_leastChange 54 = .ok (.iload_n 1, 1) := by decide +kernel
theorem dX6_leastChange_55 : decode cX6_leastChange 55 = .ok (.iconst 1, 1) := by decide +kernel
theorem dX6_leastChange_56 : decode cX6_leastChange 56 = .ok (.iadd, 1) := by decide +kernel
theorem dX6_leastChange_57 : decode cX6_leastChange 57 = .ok (.iaload, 1) := by decide +kernel
theorem dX6_leastChange_58 : decode cX6_leastChange 58 = .ok (.invokevirtual 127, 3) := by decide +kernel
theorem dX6_leastChange_61 : decode cX6_leastChange 61 = .ok (.ifCond .eq 27, 3) := by decide +kernel
theorem dX6_leastChange_64 : decode cX6_leastChange 64 = .ok (.iload_n 3, 1) := by decide +kernel
theorem dX6_leastChange_65 : decode cX6_leastChange 65 = .ok (.iconst (-1), 1) := by decide +kernel
theorem dX6_leastChange_66 : decode cX6_leastChange 66 = .ok (.if_icmp .eq 19, 3) := by decide +kernel
theorem dX6_leastChange_69 : decode cX6_leastChange 69 = .ok (.aload_n 2, 1) := by decide +kernel
theorem dX6_leastChange_70 : decode cX6_leastChange 70 = .ok (.getfield 88, 3) := by decide +kernel
theorem dX6_leastChange_73 : decode cX6_leastChange 73 = .ok (.iload 4, 2) := by decide +kernel
theorem dX6_leastChange_75 : decode cX6_leastChange 75 = .ok (.iaload, 1) := by decide +kernel
theorem dX6_leastChange_76 : decode cX6_leastChange 76 = .ok (.aload_n 2, 1) := by decide +kernel
theorem dX6_leastChange_77 : decode cX6_leastChange 77 = .ok (.getfield 88, 3) := by decide +kernel
theorem dX6_leastChange_80 : decode cX6_leastChange 80 = .ok (.iload_n 3, 1) := by decide +kernel
theorem dX6_leastChange_81 : decode cX6_leastChange 81 = .ok (.iaload, 1) := by decide +kernel
theorem dX6_leastChange_82 : decode cX6_leastChange 82 = .ok (.if_icmp .ge 6, 3) := by decide +kernel
theorem dX6_leastChange_85 : decode cX6_leastChange 85 = .ok (.iload 4, 2) := by decide +kernel
theorem dX6_leastChange_87 : decode cX6_leastChange 87 = .ok (.istore_n 3, 1) := by decide +kernel
theorem dX6_leastChange_88 : decode cX6_leastChange 88 = .ok (.iinc 4 1, 3) := by decide +kernel
theorem dX6_leastChange_91 : decode cX6_leastChange 91 = .ok (.goto (-67), 3) := by decide +kernel
theorem dX6_leastChange_94 : decode cX6_leastChange 94 = .ok (.iload_n 3, 1) := by decide +kernel
theorem dX6_leastChange_95 : decode cX6_leastChange 95 = .ok (.iconst 0, 1) := by decide +kernel
theorem dX6_leastChange_96 : decode cX6_leastChange 96 = .ok (.invokestatic 131, 3) := by decide +kernel
theorem dX6_leastChange_99 : decode cX6_leastChange 99 = .ok (.ireturn, 1) := by decide +kernel
theorem dX6_collectMinutes_0 : decode cX6_collectMinutes 0 = .ok (.aload_n 0, 1) := by decide +kernel
theorem dX6_collectMinutes_1 : decode cX6_collectMinutes 1 = .ok (.iconst 0, 1) := by decide +kernel
theorem dX6_collectMinutes_2 : decode cX6_collectMinutes 2 = .ok (.putfield 85, 3) := by decide +kernel
theorem dX6_collectMinutes_5 : decode cX6_collectMinutes 5 = .ok (.iconst 0, 1) := by decide +kernel
theorem dX6_collectMinutes_6 : decode cX6_collectMinutes 6 = .ok (.istore_n 2, 1) := by decide +kernel
theorem dX6_collectMinutes_7 : decode cX6_collectMinutes 7 = .ok (.iload_n 2, 1) := by decide +kernel
theorem dX6_collectMinutes_8 : decode cX6_collectMinutes 8 = .ok (.aload_n 0, 1) := by decide +kernel
theorem dX6_collectMinutes_9 : decode cX6_collectMinutes 9 = .ok (.getfield 42, 3) := by decide +kernel
theorem dX6_collectMinutes_12 : decode cX6_collectMinutes 12 = .ok (.if_icmp .ge 57, 3) := by decide +kernel
theorem dX6_collectMinutes_15 : decode cX6_collectMinutes 15 = .ok (.aload_n 0, 1) := by decide +kernel
theorem dX6_collectMinutes_16 : decode cX6_collectMinutes 16 = .ok (.getfield 11, 3) := by decide +kernel
theorem dX6_collectMinutes_19 : decode cX6_collectMinutes 19 = .ok (.iload_n 2, 1) := by decide +kernel
theorem dX6_collectMinutes_20 : decode cX6_collectMinutes 20 = .ok (.aaload, 1) := by decide +kernel
theorem dX6_collectMinutes_21 : decode cX6_collectMinutes 21 = .ok (.getfield 124, 3) := by decide +kernel
theorem dX6_collectMinutes_24 : decode cX6_collectMinutes 24 = .ok (.iload_n 1, 1) := by decide +kernel
theorem dX6_collectMinutes_25 : decode cX6_collectMinutes 25 = .ok (.iaload, 1) := by decide +kernel
theorem dX6_collectMinutes_26 : decode cX6_collectMinutes 26 = .ok (.istore_n 3, 1) := by decide +kernel
theorem dX6_collectMinutes_27 : decode cX6_collectMinutes 27 = .ok (.iload_n 3, 1) := by decide +kernel
theorem dX6_collectMinutes_28 : decode cX6_collectMinutes 28 = .ok (.iconst (-1), 1) := by decide +kernel
theorem dX6_collectMinutes_29 : decode cX6_collectMinutes 29 = .ok (.if_icmp .eq 34, 3) := by decide +kernel
theorem dX6_collectMinutes_32 : decode cX6_collectMinutes 32 = .ok (.aload_n 0, 1) := by decide +kernel
theorem dX6_collectMinutes_33 : decode cX6_collectMinutes 33 = .ok (.getfield 11, 3) := by decide +kernel
theorem dX6_collectMinutes_36 : decode cX6_collectMinutes 36 = .ok (.iload_n 2, 1) := by decide +kernel
theorem dX6_collectMinutes_37 : decode cX6_collectMinutes 37 = .ok (.aaload, 1) := by decide +kernel
theorem dX6_collectMinutes_38 : decode cX6_collectMinutes 38 = .ok (.aload_n 0, 1) := by decide +kernel
theorem dX6_collectMinutes_39 : decode cX6_collectMinutes 39 = .ok (.getfield 46, 3) := by decide +kernel
theorem dX6_collectMinutes_42 : decode cX6_collectMinutes 42 = .ok (.invokevirtual 103, 3) := by decide +kernel
theorem dX6_collectMinutes_45 : decode cX6_collectMinutes 45 = .ok (.ifCond .eq 18, 3) := by decide +kernel
theorem dX6_collectMinutes_48 : decode cX6_collectMinutes 48 = .ok (.aload_n 0, 1) := by decide +kernel
theorem dX6_collectMinutes_49 : decode cX6_collectMinutes 49 = .ok (.aload_n 0, 1) := by decide +kernel
theorem dX6_collectMinutes_50 : decode cX6_collectMinutes 50 = .ok (.getfield 11, 3) := by decide +kernel
theorem dX6_collectMinutes_53 : decode cX6_collectMinutes 53 = .ok (.iload_n 2, 1) := by decide +kernel
theorem dX6_collectMinutes_54 : decode cX6_collectMinutes 54 = .ok (.aaload, 1) := by decide +kernel
theorem dX6_collectMinutes_55 : decode cX6_collectMinutes 55 = .ok (.getfield 91, 3) := by decide +kernel
theorem dX6_collectMinutes_58 : decode cX6_collectMinutes 58 = .ok (.iload_n 3, 1) := by decide +kernel
theorem dX6_collectMinutes_59 : decode cX6_collectMinutes 59 = .ok (.iaload, 1) := by decide +kernel
theorem dX6_collectMinutes_60 : decode cX6_collectMinutes 60 = .ok (.invokevirtual 154, 3) := by decide +kernel
theorem dX6_collectMinutes_63 : decode cX6_collectMinutes 63 = .ok (.iinc 2 1, 3) := by decide +kernel
theorem dX6_collectMinutes_66 : decode cX6_collectMinutes 66 = .ok (.goto (-59), 3) := by decide +kernel
theorem dX6_collectMinutes_69 : decode cX6_collectMinutes 69 = .ok (.return_, 1) := by decide +kernel
theorem dX6_insertMinute_0 : decode cX6_insertMinute 0 = .ok (.aload_n 0, 1) := by decide +kernel
theorem dX6_insertMinute_1 : decode cX6_insertMinute 1 = .ok (.getfield 85, 3) := by decide +kernel
theorem dX6_insertMinute_4 : decode cX6_insertMinute 4 = .ok (.istore_n 2, 1) := by decide +kernel
theorem dX6_insertMinute_5 : decode cX6_insertMinute 5 = .ok (.iload_n 2, 1) := by decide +kernel
theorem dX6_insertMinute_6 : decode cX6_insertMinute 6 = .ok (.ifCond .le 35, 3) := by decide +kernel
theorem dX6_insertMinute_9 : decode cX6_insertMinute 9 = .ok (.aload_n 0, 1) := by decide +kernel
theorem dX6_insertMinute_10 : decode cX6_insertMinute 10 = .ok (.getfield 36, 3) := by decide +kernel
theorem dX6_insertMinute_13 : decode cX6_insertMinute 13 = .ok (.iload_n 2, 1) := by decide +kernel
theorem dX6_insertMinute_14 : decode cX6_insertMinute 14 = .ok (.iconst 1, 1) := by decide +kernel
theorem dX6_insertMinute_15 : decode cX6_insertMinute 15 = .ok (.isub, 1) := by decide +kernel
theorem dX6_insertMinute_16 : decode cX6_insertMinute 16 = .ok (.iaload, 1) := by decide +kernel
theorem dX6_insertMinute_17 : decode cX6_insertMinute 17 = .ok (.iload_n 1, 1) := by decide +kernel
theorem dX6_insertMinute_18 : decode cX6_insertMinute 18 = .ok (.if_icmp .le 23, 3) := by decide +kernel
theorem dX6_insertMinute_21 : decode cX6_insertMinute 21 = .ok (.aload_n 0, 1) := by decide +kernel
theorem dX6_insertMinute_22 : decode cX6_insertMinute 22 = .ok (.getfield 36, 3) := by decide +kernel
theorem dX6_insertMinute_25 : decode cX6_insertMinute 25 = .ok (.iload_n 2, 1) := by decide +kernel
theorem dX6_insertMinute_26 : decode cX6_insertMinute 26 = .ok (.aload_n 0, 1) := by decide +kernel
theorem dX6_insertMinute_27 : decode cX6_insertMinute 27 = .ok (.getfield 36, 3) := by decide +kernel
theorem dX6_insertMinute_30 : decode cX6_insertMinute 30 = .ok (.iload_n 2, 1) := by decide +kernel
theorem dX6_insertMinute_31 : decode cX6_insertMinute 31 = .ok (.iconst 1, 1) := by decide +kernel
theorem dX6_insertMinute_32 : decode cX6_insertMinute 32 = .ok (.isub, 1) := by decide +kernel
theorem dX6_insertMinute_33 : decode cX6_insertMinute 33 = .ok (.iaload, 1) := by decide +kernel
theorem dX6_insertMinute_34 : decode cX6_insertMinute 34 = .ok (.iastore, 1) := by decide +kernel
theorem dX6_insertMinute_35 : decode cX6_insertMinute 35 = .ok (.iinc 2 (-1), 3) := by decide +kernel
theorem dX6_insertMinute_38 : decode cX6_insertMinute 38 = .ok (.goto (-33), 3) := by decide +kernel
theorem dX6_insertMinute_41 : decode cX6_insertMinute 41 = .ok (.aload_n 0, 1) := by decide +kernel
theorem dX6_insertMinute_42 : decode cX6_insertMinute 42 = .ok (.getfield 36, 3) := by decide +kernel
theorem dX6_insertMinute_45 : decode cX6_insertMinute 45 = .ok (.iload_n 2, 1) := by decide +kernel
theorem dX6_insertMinute_46 : decode cX6_insertMinute 46 = .ok (.iload_n 1, 1) := by decide +kernel
theorem dX6_insertMinute_47 : decode cX6_insertMinute 47 = .ok (.iastore, 1) := by decide +kernel
theorem dX6_insertMinute_48 : decode cX6_insertMinute 48 = .ok (.aload_n 0, 1) := by decide +kernel
theorem dX6_insertMinute_49 : decode cX6_insertMinute 49 = .ok (.dup, 1) := by decide +kernel
theorem dX6_insertMinute_50 : decode cX6_insertMinute 50 = .ok (.getfield 85, 3) := by decide +kernel
theorem dX6_insertMinute_53 : decode cX6_insertMinute 53 = .ok (.iconst 1, 1) := by decide +kernel
theorem dX6_insertMinute_54 : decode cX6_insertMinute 54 = .ok (.iadd, 1) := by decide +kernel
theorem dX6_insertMinute_55 : decode cX6_insertMinute 55 = .ok (.putfield 85, 3) := by decide +kernel
theorem dX6_insertMinute_58 : decode cX6_insertMinute 58 = .ok (.return_, 1) := by decide +kernel
theorem dX7_init_0 : decode cX7_init 0 = .ok (.aload_n 0, 1) := by decide +kernel
theorem dX7_init_1 : decode cX7_init 1 = .ok (.invokespecial 3, 3) := by decide +kernel
theorem dX7_init_4 : decode cX7_init 4 = .ok (.aload_n 0, 1) := by decide +kernel
theorem dX7_init_5 : decode cX7_init 5 = .ok (.bipush 10, 2) := by decide +kernel
theorem dX7_init_7 : decode cX7_init 7 = .ok (.anewarray 9, 3) := by decide +kernel
theorem dX7_init_10 : decode cX7_init 10 = .ok (.putfield 11, 3) := by decide +kernel
theorem dX7_init_13 : decode cX7_init 13 = .ok (.aload_n 0, 1) := by decide +kernel
theorem dX7_init_14 : decode cX7_init 14 = .ok (.new 15, 3) := by decide +kernel
theorem dX7_init_17 : decode cX7_init 17 = .ok (.dup, 1) := by decide +kernel
theorem dX7_init_18 : decode cX7_init 18 = .ok (.invokespecial 17, 3) := by decide +kernel
theorem dX7_init_21 : decode cX7_init 21 = .ok (.putfield 18, 3) := by decide +kernel
theorem dX7_init_24 : decode cX7_init 24 = .ok (.aload_n 0, 1) := by decide +kernel
theorem dX7_init_25 : decode cX7_init 25 = .ok (.new 22, 3) := by decide +kernel
theorem dX7_init_28 : decode cX7_init 28 = .ok (.dup, 1) := by decide +kernel
theorem dX7_init_29 : decode cX7_init 29 = .ok (.invokespecial 24, 3) := by decide +kernel
theorem dX7_init_32 : decode cX7_init 32 = .ok (.putfield 25, 3) := by decide +kernel
theorem dX7_init_35 : decode cX7_init 35 = .ok (.aload_n 0, 1) := by decide +kernel
theorem dX7_init_36 : decode cX7_init 36 = .ok (.new 29, 3) := by decide +kernel
theorem dX7_init_39 : decode cX7_init 39 = .ok (.dup, 1) := by decide +kernel
theorem dX7_init_40 : decode cX7_init 40 = .ok (.invokespecial 31, 3) := by decide +kernel
theorem dX7_init_43 : decode cX7_init 43 = .ok (.putfield 32, 3) := by decide +kernel
theorem dX7_init_46 : decode cX7_init 46 = .ok (.aload_n 0, 1) := by decide +kernel
theorem dX7_init_47 : decode cX7_init 47 = .ok (.iconst 5, 1) := by decide +kernel
theorem dX7_init_48 : decode cX7_init 48 = .ok (.putfield 36, 3) := by decide +kernel
theorem dX7_init_51 : decode cX7_init 51 = .ok (.iconst 0, 1) := by decide +kernel
theorem dX7_init_52 : decode cX7_init 52 = .ok (.istore_n 1, 1) := by decide +kernel
theorem dX7_init_53 : decode cX7_init 53 = .ok (.iload_n 1, 1) := by decide +kernel
theorem dX7_init_54 : decode cX7_init 54 = .ok (.bipush 10, 2) := by decide +kernel
theorem dX7_init_56 : decode cX7_init 56 = .ok (.if_icmp .ge 22, 3) := by decide +kernel
theorem dX7_init_59 : decode cX7_init 59 = .ok (.aload_n 0, 1) := by decide +kernel
theorem dX7_init_60 : decode cX7_init 60 = .ok (.getfield 11, 3) := by decide +kernel
theorem dX7_init_63 : decode cX7_init 63 = .ok (.iload_n 1, 1) := by decide +kernel
theorem dX7_init_64 : decode cX7_init 64 = .ok (.new 9, 3) := by decide +kernel
theorem dX7_init_67 : decode cX7_init 67 = .ok (.dup, 1) := by decide +kernel
theorem dX7_init_68 : decode cX7_init 68 = .ok (.invokespecial 40, 3) := by decide +kernel
theorem dX7_init_71 : decode cX7_init 71 = .ok (.aastore, 1) := by decide +kernel
theorem dX7_init_72 : decode cX7_init 72 = .ok (.iinc 1 1, 3) := by decide +kernel
theorem dX7_init_75 : decode cX7_init 75 = .ok (.goto (-22), 3) := by decide +kernel
theorem dX7_init_78 : decode cX7_init 78 = .ok (.return_, 1) := by decide +kernel
theorem dX7_train_0 : decode cX7_train 0 = .ok (.iload_n 1, 1) := by decide +kernel
theorem dX7_train_1 : decode cX7_train 1 = .ok (.invokestatic 41, 3) := by decide +kernel
theorem dX7_train_4 : decode cX7_train 4 = .ok (.ifCond .eq 12, 3) := by decide +kernel
theorem dX7_train_7 : decode cX7_train 7 = .ok (.aload_n 0, 1) := by decide +kernel
theorem dX7_train_8 : decode cX7_train 8 = .ok (.getfield 45, 3) := by decide +kernel
theorem dX7_train_11 : decode cX7_train 11 = .ok (.bipush 10, 2) := by decide +kernel
theorem dX7_train_13 : decode cX7_train 13 = .ok (.if_icmp .lt 5, 3) := by decide +kernel
theorem dX7_train_16 : decode cX7_train 16 = .ok (.iconst (-1), 1) := by decide +kernel
theorem dX7_train_17 : decode cX7_train 17 = .ok (.ireturn, 1) := by decide +kernel
theorem dX7_train_18 : decode cX7_train 18 = .ok (.aload_n 0, 1) := by decide +kernel
theorem dX7_train_19 : decode cX7_train 19 = .ok (.getfield 11, 3) := by decide +kernel
theorem dX7_train_22 : decode cX7_train 22 = .ok (.aload_n 0, 1) := by decide +kernel
theorem dX7_train_23 : decode cX7_train 23 = .ok (.getfield 45, 3) := by decide +kernel
theorem dX7_train_26 : decode cX7_train 26 = .ok (.aaload, 1) := by decide +kernel
theorem dX7_train_27 : decode cX7_train 27 = .ok (.iload_n 1, 1) := by decide +kernel
theorem dX7_train_28 : decode cX7_train 28 = .ok (.putfield 48, 3) := by decide +kernel
theorem dX7_train_31 : decode cX7_train 31 = .ok (.aload_n 0, 1) := by decide +kernel
theorem dX7_train_32 : decode cX7_train 32 = .ok (.dup, 1) := by decide +kernel
theorem dX7_train_33 : decode cX7_train 33 = .ok (.getfield 45, 3) := by decide +kernel
theorem dX7_train_36 : decode cX7_train 36 = .ok (.iconst 1, 1) := by decide +kernel
theorem dX7_train_37 : decode cX7_train 37 = .ok (.iadd, 1) := by decide +kernel
theorem dX7_train_38 : decode cX7_train 38 = .ok (.putfield 45, 3) := by decide +kernel
theorem dX7_train_41 : decode cX7_train 41 = .ok (.aload_n 0, 1) := by decide +kernel
theorem dX7_train_42 : decode cX7_train 42 = .ok (.getfield 45, 3) := by decide +kernel
theorem dX7_train_45 : decode cX7_train 45 = .ok (.iconst 1, 1) := by decide +kernel
theorem dX7_train_46 : decode cX7_train 46 = .ok (.isub, 1) := by decide +kernel
theorem dX7_train_47 : decode cX7_train 47 = .ok (.ireturn, 1) := by decide +kernel
theorem dX7_stop_0 : decode cX7_stop 0 = .ok (.aload_n 0, 1) := by decide +kernel
theorem dX7_stop_1 : decode cX7_stop 1 = .ok (.iload_n 1, 1) := by decide +kernel
theorem dX7_stop_2 : decode cX7_stop 2 = .ok (.invokevirtual 51, 3) := by decide +kernel
theorem dX7_stop_5 : decode cX7_stop 5 = .ok (.astore 5, 2) := by decide +kernel
theorem dX7_stop_7 : decode cX7_stop 7 = .ok (.aload 5, 2) := by decide +kernel
theorem dX7_stop_9 : decode cX7_stop 9 = .ok (.ifnull 22, 3) := by decide +kernel
theorem dX7_stop_12 : decode cX7_stop 12 = .ok (.iload_n 2, 1) := by decide +kernel
theorem dX7_stop_13 : decode cX7_stop 13 = .ok (.invokestatic 55, 3) := by decide +kernel
theorem dX7_stop_16 : decode cX7_stop 16 = .ok (.ifCond .eq 15, 3) := by decide +kernel
theorem dX7_stop_19 : decode cX7_stop 19 = .ok (.aload 5, 2) := by decide +kernel
theorem dX7_stop_21 : decode cX7_stop 21 = .ok (.iload_n 2, 1) := by decide +kernel
theorem dX7_stop_22 : decode cX7_stop 22 = .ok (.iload_n 3, 1) := by decide +kernel
theorem dX7_stop_23 : decode cX7_stop 23 = .ok (.iload 4, 2) := by decide +kernel
theorem dX7_stop_25 : decode cX7_stop 25 = .ok (.invokevirtual 58, 3) := by decide +kernel
theorem dX7_stop_28 : decode cX7_stop 28 = .ok (.ifCond .ne 5, 3) := by decide +kernel
theorem dX7_stop_31 : decode cX7_stop 31 = .ok (.iconst (-1), 1) := by decide +kernel
theorem dX7_stop_32 : decode cX7_stop 32 = .ok (.ireturn, 1) := by decide +kernel
theorem dX7_stop_33 : decode cX7_stop 33 = .ok (.aload 5, 2) := by decide +kernel
theorem dX7_stop_35 : decode cX7_stop 35 = .ok (.iload_n 2, 1) := by decide +kernel
theorem dX7_stop_36 : decode cX7_stop 36 = .ok (.iload_n 3, 1) := by decide +kernel
theorem dX7_stop_37 : decode cX7_stop 37 = .ok (.iload 4, 2) := by decide +kernel
theorem dX7_stop_39 : decode cX7_stop 39 = .ok (.invokevirtual 62, 3) := by decide +kernel
theorem dX7_stop_42 : decode cX7_stop 42 = .ok (.aload 5, 2) := by decide +kernel
theorem dX7_stop_44 : decode cX7_stop 44 = .ok (.getfield 66, 3) := by decide +kernel
theorem dX7_stop_47 : decode cX7_stop 47 = .ok (.ireturn, 1) := by decide +kernel
theorem dX7_days_0 : decode cX7_days 0 = .ok (.aload_n 0, 1) := by decide +kernel
theorem dX7_days_1 : decode cX7_days 1 = .ok (.iload_n 1, 1) := by decide +kernel
theorem dX7_days_2 : decode cX7_days 2 = .ok (.invokevirtual 51, 3) := by decide +kernel
theorem dX7_days_5 : decode cX7_days 5 = .ok (.astore_n 3, 1) := by decide +kernel
theorem dX7_days_6 : decode cX7_days 6 = .ok (.aload_n 3, 1) := by decide +kernel
theorem dX7_days_7 : decode cX7_days 7 = .ok (.ifnull 10, 3) := by decide +kernel
theorem dX7_days_10 : decode cX7_days 10 = .ok (.iload_n 2, 1) := by decide +kernel
theorem dX7_days_11 : decode cX7_days 11 = .ok (.invokestatic 41, 3) := by decide +kernel
theorem dX7_days_14 : decode cX7_days 14 = .ok (.ifCond .ne 5, 3) := by decide +kernel
theorem dX7_days_17 : decode cX7_days 17 = .ok (.iconst 0, 1) := by decide +kernel
theorem dX7_days_18 : decode cX7_days 18 = .ok (.ireturn, 1) := by decide +kernel
theorem dX7_days_19 : decode cX7_days 19 = .ok (.aload_n 3, 1) := by decide +kernel
theorem dX7_days_20 : decode cX7_days 20 = .ok (.iload_n 2, 1) := by decide +kernel
theorem dX7_days_21 : decode cX7_days 21 = .ok (.putfield 48, 3) := by decide +kernel
theorem dX7_days_24 : decode cX7_days 24 = .ok (.iconst 1, 1) := by decide +kernel
theorem dX7_days_25 : decode cX7_days 25 = .ok (.ireturn, 1) := by decide +kernel
theorem dX7_cut_0 : decode cX7_cut 0 = .ok (.aload_n 0, 1) := by decide +kernel
theorem dX7_cut_1 : decode cX7_cut 1 = .ok (.iload_n 1, 1) := by decide +kernel
theorem dX7_cut_2 : decode cX7_cut 2 = .ok (.invokevirtual 51, 3) := by decide +kernel
theorem dX7_cut_5 : decode cX7_cut 5 = .ok (.astore_n 2, 1) := by decide +kernel
theorem dX7_cut_6 : decode cX7_cut 6 = .ok (.aload_n 2, 1) := by decide +kernel
theorem dX7_cut_7 : decode cX7_cut 7 = .ok (.ifnull 10, 3) := by decide +kernel
theorem dX7_cut_10 : decode cX7_cut 10 = .ok (.aload_n 2, 1) := by decide +kernel
theorem dX7_cut_11 : decode cX7_cut 11 = .ok (.getfield 66, 3) := by decide +kernel
theorem dX7_cut_14 : decode cX7_cut 14 = .ok (.ifCond .ne 5, 3) := by decide +kernel
theorem dX7_cut_17 : decode cX7_cut 17 = .ok (.iconst 0, 1) := by decide +kernel
theorem dX7_cut_18 : decode cX7_cut 18 = .ok (.ireturn, 1) := by decide +kernel
theorem dX7_cut_19 : decode cX7_cut 19 = .ok (.aload_n 2, 1) := by decide +kernel
theorem dX7_cut_20 : decode cX7_cut 20 = .ok (.invokevirtual 69, 3) := by decide +kernel
theorem dX7_cut_23 : decode cX7_cut 23 = .ok (.iconst 1, 1) := by decide +kernel
theorem dX7_cut_24 : decode cX7_cut 24 = .ok (.ireturn, 1) := by decide +kernel
theorem dX7_shift_0 : decode cX7_shift 0 = .ok (.aload_n 0, 1) := by decide +kernel
theorem dX7_shift_1 : decode cX7_shift 1 = .ok (.iload_n 1, 1) := by decide +kernel
theorem dX7_shift_2 : decode cX7_shift 2 = .ok (.invokevirtual 51, 3) := by decide +kernel
theorem dX7_shift_5 : decode cX7_shift 5 = .ok (.astore_n 3, 1) := by decide +kernel
theorem dX7_shift_6 : decode cX7_shift 6 = .ok (.aload_n 3, 1) := by decide +kernel
theorem dX7_shift_7 : decode cX7_shift 7 = .ok (.ifnull 11, 3) := by decide +kernel
theorem dX7_shift_10 : decode cX7_shift 10 = .ok (.aload_n 3, 1) := by decide +kernel
theorem dX7_shift_11 : decode cX7_shift 11 = .ok (.iload_n 2, 1) := by decide +kernel
theorem dX7_shift_12 : decode cX7_shift 12 = .ok (.invokevirtual 72, 3) := by decide +kernel
theorem dX7_shift_15 : decode cX7_shift 15 = .ok (.ifCond .ne 5, 3) := by decide +kernel
theorem dX7_shift_18 : decode cX7_shift 18 = .ok (.iconst 0, 1) := by decide +kernel
theorem dX7_shift_19 : decode cX7_shift 19 = .ok (.ireturn, 1) := by decide +kernel
theorem dX7_shift_20 : decode cX7_shift 20 = .ok (.aload_n 3, 1) := by decide +kernel
theorem dX7_shift_21 : decode cX7_shift 21 = .ok (.iload_n 2, 1) := by decide +kernel
theorem dX7_shift_22 : decode cX7_shift 22 = .ok (.invokevirtual 75, 3) := by decide +kernel
theorem dX7_shift_25 : decode cX7_shift 25 = .ok (.iconst 1, 1) := by decide +kernel
theorem dX7_shift_26 : decode cX7_shift 26 = .ok (.ireturn, 1) := by decide +kernel
theorem dX7_sign_0 : decode cX7_sign 0 = .ok (.iload_n 1, 1) := by decide +kernel
theorem dX7_sign_1 : decode cX7_sign 1 = .ok (.bipush 7, 2) := by decide +kernel
theorem dX7_sign_3 : decode cX7_sign 3 = .ok (.if_icmp .lt 19, 3) := by decide +kernel
theorem dX7_sign_6 : decode cX7_sign 6 = .ok (.iload_n 1, 1) := by decide +kernel
theorem dX7_sign_7 : decode cX7_sign 7 = .ok (.bipush 13, 2) := by decide +kernel
theorem dX7_sign_9 : decode cX7_sign 9 = .ok (.if_icmp .ge 13, 3) := by decide +kernel
theorem dX7_sign_12 : decode cX7_sign 12 = .ok (.iload_n 2, 1) := by decide +kernel
theorem dX7_sign_13 : decode cX7_sign 13 = .ok (.ifCond .lt 9, 3) := by decide +kernel
theorem dX7_sign_16 : decode cX7_sign 16 = .ok (.iload_n 2, 1) := by decide +kernel
theorem dX7_sign_17 : decode cX7_sign 17 = .ok (.bipush 127, 2) := by decide +kernel
theorem dX7_sign_19 : decode cX7_sign 19 = .ok (.if_icmp .le 5, 3) := by decide +kernel
theorem dX7_sign_22 : decode cX7_sign 22 = .ok (.iconst 0, 1) := by decide +kernel
theorem dX7_sign_23 : decode cX7_sign 23 = .ok (.ireturn, 1) := by decide +kernel
theorem dX7_sign_24 : decode cX7_sign 24 = .ok (.aload_n 0, 1) := by decide +kernel
theorem dX7_sign_25 : decode cX7_sign 25 = .ok (.getfield 18, 3) := by decide +kernel
theorem dX7_sign_28 : decode cX7_sign 28 = .ok (.iload_n 1, 1) := by decide +kernel
theorem dX7_sign_29 : decode cX7_sign 29 = .ok (.bipush 7, 2) := by decide +kernel
theorem dX7_sign_31 : decode cX7_sign 31 = .ok (.isub, 1) := by decide +kernel
theorem dX7_sign_32 : decode cX7_sign 32 = .ok (.iload_n 2, 1) := by decide +kernel
theorem dX7_sign_33 : decode cX7_sign 33 = .ok (.invokevirtual 79, 3) := by decide +kernel
theorem dX7_sign_36 : decode cX7_sign 36 = .ok (.iconst 1, 1) := by decide +kernel
theorem dX7_sign_37 : decode cX7_sign 37 = .ok (.ireturn, 1) := by decide +kernel
theorem dX7_change_0 : decode cX7_change 0 = .ok (.iload_n 1, 1) := by decide +kernel
theorem dX7_change_1 : decode cX7_change 1 = .ok (.ifCond .lt 9, 3) := by decide +kernel
theorem dX7_change_4 : decode cX7_change 4 = .ok (.iload_n 1, 1) := by decide +kernel
theorem dX7_change_5 : decode cX7_change 5 = .ok (.bipush 60, 2) := by decide +kernel
theorem dX7_change_7 : decode cX7_change 7 = .ok (.if_icmp .le 5, 3) := by decide +kernel
theorem dX7_change_10 : decode cX7_change 10 = .ok (.iconst 0, 1) := by decide +kernel
theorem dX7_change_11 : decode cX7_change 11 = .ok (.ireturn, 1) := by decide +kernel
theorem dX7_change_12 : decode cX7_change 12 = .ok (.aload_n 0, 1) := by decide +kernel
theorem dX7_change_13 : decode cX7_change 13 = .ok (.iload_n 1, 1) := by decide +kernel
theorem dX7_change_14 : decode cX7_change 14 = .ok (.putfield 36, 3) := by decide +kernel
theorem dX7_change_17 : decode cX7_change 17 = .ok (.iconst 1, 1) := by decide +kernel
theorem dX7_change_18 : decode cX7_change 18 = .ok (.ireturn, 1) := by decide +kernel
theorem dX7_about_0 : decode cX7_about 0 = .ok (.iload_n 1, 1) := by decide +kernel
theorem dX7_about_1 : decode cX7_about 1 = .ok (.bipush 100, 2) := by decide +kernel
theorem dX7_about_3 : decode cX7_about 3 = .ok (.if_icmp .ge 9, 3) := by decide +kernel
theorem dX7_about_6 : decode cX7_about 6 = .ok (.aload_n 0, 1) := by decide +kernel
theorem dX7_about_7 : decode cX7_about 7 = .ok (.iload_n 1, 1) := by decide +kernel
theorem dX7_about_8 : decode cX7_about 8 = .ok (.invokevirtual 83, 3) := by decide +kernel
theorem dX7_about_11 : decode cX7_about 11 = .ok (.ireturn, 1) := by decide +kernel
theorem dX7_about_12 : decode cX7_about 12 = .ok (.aload_n 0, 1) := by decide +kernel
theorem dX7_about_13 : decode cX7_about 13 = .ok (.iload_n 1, 1) := by decide +kernel
theorem dX7_about_14 : decode cX7_about 14 = .ok (.bipush 100, 2) := by decide +kernel
theorem dX7_about_16 : decode cX7_about 16 = .ok (.idiv, 1) := by decide +kernel
theorem dX7_about_17 : decode cX7_about 17 = .ok (.iconst 1, 1) := by decide +kernel
theorem dX7_about_18 : decode cX7_about 18 = .ok (.isub, 1) := by decide +kernel
theorem dX7_about_19 : decode cX7_about 19 = .ok (.invokevirtual 51, 3) := by decide +kernel
theorem dX7_about_22 : decode cX7_about 22 = .ok (.astore_n 2, 1) := by decide +kernel
theorem dX7_about_23 : decode cX7_about 23 = .ok (.aload_n 2, 1) := by decide +kernel
theorem dX7_about_24 : decode cX7_about 24 = .ok (.ifnonnull 7, 3) := by decide +kernel
theorem dX7_about_27 : decode cX7_about 27 = .ok (.iconst (-1), 1) := by decide +kernel
theorem dX7_about_28 : decode cX7_about 28 = .ok (.goto 11, 3) := by decide +kernel
theorem dX7_about_31 : decode cX7_about 31 = .ok (.aload_n 2, 1) := by decide +kernel
theorem dX7_about_32 : decode cX7_about 32 = .ok (.iload_n 1, 1) := by decide +kernel
theorem dX7_about_33 : decode cX7_about 33 = .ok (.bipush 100, 2) := by decide +kernel
theorem dX7_about_35 : decode cX7_about 35 = .ok (.irem, 1) := by decide +kernel
theorem dX7_about_36 : decode cX7_about 36 = .ok (.invokevirtual 87, 3) := by decide +kernel
theorem dX7_about_39 : decode cX7_about 39 = .ok (.ireturn, 1) := by decide +kernel
theorem dX7_signs_0 : decode cX7_signs 0 = .ok (.aload_n 0, 1) := by decide +kernel
theorem dX7_signs_1 : decode cX7_signs 1 = .ok (.iload_n 1, 1) := by decide +kernel
theorem dX7_signs_2 : decode cX7_signs 2 = .ok (.invokevirtual 51, 3) := by decide +kernel
theorem dX7_signs_5 : decode cX7_signs 5 = .ok (.astore_n 3, 1) := by decide +kernel
theorem dX7_signs_6 : decode cX7_signs 6 = .ok (.aload_n 3, 1) := by decide +kernel
theorem dX7_signs_7 : decode cX7_signs 7 = .ok (.ifnull 12, 3) := by decide +kernel
theorem dX7_signs_10 : decode cX7_signs 10 = .ok (.iload_n 2, 1) := by decide +kernel
theorem dX7_signs_11 : decode cX7_signs 11 = .ok (.ifCond .lt 8, 3) := by decide +kernel
theorem dX7_signs_14 : decode cX7_signs 14 = .ok (.iload_n 2, 1) := by decide +kernel
theorem dX7_signs_15 : decode cX7_signs 15 = .ok (.iconst 1, 1) := by decide +kernel
theorem dX7_signs_16 : decode cX7_signs 16 = .ok (.if_icmp .le 5, 3) := by decide +kernel
theorem dX7_signs_19 : decode cX7_signs 19 = .ok (.iconst (-1), 1) := by decide +kernel
theorem dX7_signs_20 : decode cX7_signs 20 = .ok (.ireturn, 1) := by decide +kernel
theorem dX7_signs_21 : decode cX7_signs 21 = .ok (.aload_n 0, 1) := by decide +kernel
theorem dX7_signs_22 : decode cX7_signs 22 = .ok (.getfield 18, 3) := by decide +kernel
theorem dX7_signs_25 : decode cX7_signs 25 = .ok (.aload_n 3, 1) := by decide +kernel
theorem dX7_signs_26 : decode cX7_signs 26 = .ok (.getfield 48, 3) := by decide +kernel
theorem dX7_signs_29 : decode cX7_signs 29 = .ok (.invokevirtual 90, 3) := by decide +kernel
theorem dX7_signs_32 : decode cX7_signs 32 = .ok (.istore 4, 2) := by decide +kernel
theorem dX7_signs_34 : decode cX7_signs 34 = .ok (.iload_n 2, 1) := by decide +kernel
theorem dX7_signs_35 : decode cX7_signs 35 = .ok (.ifCond .ne 11, 3) := by decide +kernel
theorem dX7_signs_38 : decode cX7_signs 38 = .ok (.iload 4, 2) := by decide +kernel
theorem dX7_signs_40 : decode cX7_signs 40 = .ok (.invokestatic 93, 3) := by decide +kernel
theorem dX7_signs_43 : decode cX7_signs 43 = .ok (.goto 5, 3) := by decide +kernel
theorem dX7_signs_46 : decode cX7_signs 46 = .ok (.iload 4, 2) := by decide +kernel
theorem dX7_signs_48 : decode cX7_signs 48 = .ok (.ireturn, 1) := by decide +kernel
theorem dX7_table_0 : decode cX7_table 0 = .ok (.aload_n 0, 1) := by decide +kernel
theorem dX7_table_1 : decode cX7_table 1 = .ok (.iload_n 1, 1) := by decide +kernel
theorem dX7_table_2 : decode cX7_table 2 = .ok (.invokevirtual 98, 3) := by decide +kernel
theorem dX7_table_5 : decode cX7_table 5 = .ok (.ifCond .ne 5, 3) := by decide +kernel
theorem dX7_table_8 : decode cX7_table 8 = .ok (.iconst (-1), 1) := by decide +kernel
theorem dX7_table_9 : decode cX7_table 9 = .ok (.ireturn, 1) := by decide +kernel
theorem dX7_table_10 : decode cX7_table 10 = .ok (.aload_n 0, 1) := by decide +kernel
theorem dX7_table_11 : decode cX7_table 11 = .ok (.getfield 25, 3) := by decide +kernel
theorem dX7_table_14 : decode cX7_table 14 = .ok (.aload_n 0, 1) := by decide +kernel
theorem dX7_table_15 : decode cX7_table 15 = .ok (.getfield 11, 3) := by decide +kernel
theorem dX7_table_18 : decode cX7_table 18 = .ok (.iload_n 1, 1) := by decide +kernel
theorem dX7_table_19 : decode cX7_table 19 = .ok (.invokevirtual 101, 3) := by decide +kernel
theorem dX7_table_22 : decode cX7_table 22 = .ok (.aload_n 0, 1) := by decide +kernel
theorem dX7_table_23 : decode cX7_table 23 = .ok (.getfield 25, 3) := by decide +kernel
theorem dX7_table_26 : decode cX7_table 26 = .ok (.invokevirtual 105, 3) := by decide +kernel
theorem dX7_table_29 : decode cX7_table 29 = .ok (.ireturn, 1) := by decide +kernel
theorem dX7_row_0 : decode cX7_row 0 = .ok (.aload_n 0, 1) := by decide +kernel
theorem dX7_row_1 : decode cX7_row 1 = .ok (.getfield 25, 3) := by decide +kernel
theorem dX7_row_4 : decode cX7_row 4 = .ok (.iload_n 1, 1) := by decide +kernel
theorem dX7_row_5 : decode cX7_row 5 = .ok (.invokevirtual 109, 3) := by decide +kernel
theorem dX7_row_8 : decode cX7_row 8 = .ok (.ifCond .eq 14, 3) := by decide +kernel
theorem dX7_row_11 : decode cX7_row 11 = .ok (.aload_n 0, 1) := by decide +kernel
theorem dX7_row_12 : decode cX7_row 12 = .ok (.getfield 25, 3) := by decide +kernel
theorem dX7_row_15 : decode cX7_row 15 = .ok (.iload_n 1, 1) := by decide +kernel
theorem dX7_row_16 : decode cX7_row 16 = .ok (.invokevirtual 112, 3) := by decide +kernel
theorem dX7_row_19 : decode cX7_row 19 = .ok (.goto 4, 3) := by decide +kernel
theorem dX7_row_22 : decode cX7_row 22 = .ok (.iconst (-1), 1) := by decide +kernel
theorem dX7_row_23 : decode cX7_row 23 = .ok (.ireturn, 1) := by decide +kernel
theorem dX7_column_0 : decode cX7_column 0 = .ok (.aload_n 0, 1) := by decide +kernel
theorem dX7_column_1 : decode cX7_column 1 = .ok (.getfield 25, 3) := by decide +kernel
theorem dX7_column_4 : decode cX7_column 4 = .ok (.iload_n 1, 1) := by decide +kernel
theorem dX7_column_5 : decode cX7_column 5 = .ok (.invokevirtual 115, 3) := by decide +kernel
theorem dX7_column_8 : decode cX7_column 8 = .ok (.ifCond .eq 14, 3) := by decide +kernel
theorem dX7_column_11 : decode cX7_column 11 = .ok (.aload_n 0, 1) := by decide +kernel
theorem dX7_column_12 : decode cX7_column 12 = .ok (.getfield 25, 3) := by decide +kernel
theorem dX7_column_15 : decode cX7_column 15 = .ok (.iload_n 1, 1) := by decide +kernel
theorem dX7_column_16 : decode cX7_column 16 = .ok (.invokevirtual 118, 3) := by decide +kernel
theorem dX7_column_19 : decode cX7_column 19 = .ok (.goto 4, 3) := by decide +kernel
theorem dX7_column_22 : decode cX7_column 22 = .ok (.iconst (-1), 1) := by decide +kernel
theorem dX7_column_23 : decode cX7_column 23 = .ok (.ireturn, 1) := by decide +kernel
theorem dX7_cell_0 : decode cX7_cell 0 = .ok (.aload_n 0, 1) := by decide +kernel
theorem dX7_cell_1 : decode cX7_cell 1 = .ok (.getfield 25, 3) := by decide +kernel
theorem dX7_cell_4 : decode cX7_cell 4 = .ok (.iload_n 1, 1) := by decide +kernel
theorem dX7_cell_5 : decode cX7_cell 5 = .ok (.invokevirtual 109, 3) := by decide +kernel
theorem dX7_cell_8 : decode cX7_cell 8 = .ok (.ifCond .eq 23, 3) := by decide +kernel
theorem dX7_cell_11 : decode cX7_cell 11 = .ok (.aload_n 0, 1) := by decide +kernel
theorem dX7_cell_12 : decode cX7_cell 12 = .ok (.getfield 25, 3) := by decide +kernel
theorem dX7_cell_15 : decode cX7_cell 15 = .ok (.iload_n 2, 1) := by decide +kernel
theorem dX7_cell_16 : decode cX7_cell 16 = .ok (.invokevirtual 115, 3) := by decide +kernel
theorem dX7_cell_19 : decode cX7_cell 19 = .ok (.ifCond .eq 12, 3) := by decide +kernel
theorem dX7_cell_22 : decode cX7_cell 22 = .ok (.iload_n 3, 1) := by decide +kernel
theorem dX7_cell_23 : decode cX7_cell 23 = .ok (.ifCond .lt 8, 3) := by decide +kernel
theorem dX7_cell_26 : decode cX7_cell 26 = .ok (.iload_n 3, 1) := by decide +kernel
theorem dX7_cell_27 : decode cX7_cell 27 = .ok (.iconst 1, 1) := by decide +kernel
theorem dX7_cell_28 : decode cX7_cell 28 = .ok (.if_icmp .le 6, 3) := by decide +kernel
theorem dX7_cell_31 : decode cX7_cell 31 = .ok (.bipush (-3), 2) := by decide +kernel
theorem dX7_cell_33 : decode cX7_cell 33 = .ok (.ireturn, 1) := by decide +kernel
theorem dX7_cell_34 : decode cX7_cell 34 = .ok (.aload_n 0, 1) := by decide +kernel
theorem dX7_cell_35 : decode cX7_cell 35 = .ok (.getfield 25, 3) := by decide +kernel
theorem dX7_cell_38 : decode cX7_cell 38 = .ok (.iload_n 1, 1) := by decide +kernel
theorem dX7_cell_39 : decode cX7_cell 39 = .ok (.iload_n 2, 1) := by decide +kernel
theorem dX7_cell_40 : decode cX7_cell 40 = .ok (.iload_n 3, 1) := by decide +kernel
theorem dX7_cell_41 : decode cX7_cell 41 = .ok (.ifCond .ne 7, 3) := by decide +kernel
theorem dX7_cell_44 : decode cX7_cell 44 = .ok (.iconst 1, 1) := by decide +kernel
theorem dX7_cell_45 : decode cX7_cell 45 = .ok (.goto 4, 3) := by decide +kernel
theorem dX7_cell_48 : decode cX7_cell 48 = .ok (.iconst 0, 1) := by decide +kernel
theorem dX7_cell_49 : decode cX7_cell 49 = .ok (.invokevirtual 120, 3) := by decide +kernel
theorem dX7_cell_52 : decode cX7_cell 52 = .ok (.ireturn, 1) := by decide +kernel
theorem dX7_breaches_0 : decode cX7_breaches 0 = .ok (.aload_n 0, 1) := by decide +kernel
theorem dX7_breaches_1 : decode cX7_breaches 1 = .ok (.getfield 25, 3) := by decide +kernel
theorem dX7_breaches_4 : decode cX7_breaches 4 = .ok (.invokevirtual 123, 3) := by decide +kernel
theorem dX7_breaches_7 : decode cX7_breaches 7 = .ok (.ifCond .eq 12, 3) := by decide +kernel
theorem dX7_breaches_10 : decode cX7_breaches 10 = .ok (.iload_n 1, 1) := by decide +kernel
theorem dX7_breaches_11 : decode cX7_breaches 11 = .ok (.ifCond .lt 8, 3) := by decide +kernel
theorem dX7_breaches_14 : decode cX7_breaches 14 = .ok (.iload_n 1, 1) := by decide +kernel
theorem dX7_breaches_15 : decode cX7_breaches 15 = .ok (.iconst 1, 1) := by decide +kernel
theorem dX7_breaches_16 : decode cX7_breaches 16 = .ok (.if_icmp .le 5, 3) := by decide +kernel
theorem dX7_breaches_19 : decode cX7_breaches 19 = .ok (.iconst (-1), 1) := by decide +kernel
theorem dX7_breaches_20 : decode cX7_breaches 20 = .ok (.ireturn, 1) := by decide +kernel
theorem dX7_breaches_21 : decode cX7_breaches 21 = .ok (.iload_n 1, 1) := by decide +kernel
theorem dX7_breaches_22 : decode cX7_breaches 22 = .ok (.ifCond .ne 13, 3) := by decide +kernel
theorem dX7_breaches_25 : decode cX7_breaches 25 = .ok (.aload_n 0, 1) := by decide +kernel
theorem dX7_breaches_26 : decode cX7_breaches 26 = .ok (.getfield 25, 3) := by decide +kernel
theorem dX7_breaches_29 : decode cX7_breaches 29 = .ok (.invokevirtual 127, 3) := by decide +kernel
theorem dX7_breaches_32 : decode cX7_breaches 32 = .ok (.goto 10, 3) := by decide +kernel
theorem dX7_breaches_35 : decode cX7_breaches 35 = .ok (.aload_n 0, 1) := by decide +kernel
theorem dX7_breaches_36 : decode cX7_breaches 36 = .ok (.getfield 25, 3) := by decide +kernel
theorem dX7_breaches_39 : decode cX7_breaches 39 = .ok (.invokevirtual 130, 3) := by decide +kernel
theorem dX7_breaches_42 : decode cX7_breaches 42 = .ok (.ireturn, 1) := by decide +kernel
theorem dX7_breach_0 : decode cX7_breach 0 = .ok (.aload_n 0, 1) := by decide +kernel
theorem dX7_breach_1 : decode cX7_breach 1 = .ok (.getfield 25, 3) := by decide +kernel
theorem dX7_breach_4 : decode cX7_breach 4 = .ok (.iload_n 1, 1) := by decide +kernel
theorem dX7_breach_5 : decode cX7_breach 5 = .ok (.invokevirtual 115, 3) := by decide +kernel
theorem dX7_breach_8 : decode cX7_breach 8 = .ok (.ifCond .eq 19, 3) := by decide +kernel
theorem dX7_breach_11 : decode cX7_breach 11 = .ok (.aload_n 0, 1) := by decide +kernel
theorem dX7_breach_12 : decode cX7_breach 12 = .ok (.getfield 25, 3) := by decide +kernel
theorem dX7_breach_15 : decode cX7_breach 15 = .ok (.iload_n 2, 1) := by decide +kernel
theorem dX7_breach_16 : decode cX7_breach 16 = .ok (.invokevirtual 115, 3) := by decide +kernel
theorem dX7_breach_19 : decode cX7_breach 19 = .ok (.ifCond .eq 8, 3) := by decide +kernel
theorem dX7_breach_22 : decode cX7_breach 22 = .ok (.iload_n 1, 1) := by decide +kernel
theorem dX7_breach_23 : decode cX7_breach 23 = .ok (.iload_n 2, 1) := by decide +kernel
theorem dX7_breach_24 : decode cX7_breach 24 = .ok (.if_icmp .lt 5, 3) := by decide +kernel
theorem dX7_breach_27 : decode cX7_breach 27 = .ok (.iconst (-1), 1) := by decide +kernel
theorem dX7_breach_28 : decode cX7_breach 28 = .ok (.ireturn, 1) := by decide +kernel
theorem dX7_breach_29 : decode cX7_breach 29 = .ok (.aload_n 0, 1) := by decide +kernel
theorem dX7_breach_30 : decode cX7_breach 30 = .ok (.getfield 25, 3) := by decide +kernel
theorem dX7_breach_33 : decode cX7_breach 33 = .ok (.iload_n 1, 1) := by decide +kernel
theorem dX7_breach_34 : decode cX7_breach 34 = .ok (.iload_n 2, 1) := by decide +kernel
theorem dX7_breach_35 : decode cX7_breach 35 = .ok (.invokevirtual 133, 3) := by decide +kernel
theorem dX7_breach_38 : decode cX7_breach 38 = .ok (.ifCond .eq 7, 3) := by decide +kernel
theorem dX7_breach_41 : decode cX7_breach 41 = .ok (.iconst 1, 1) := by decide +kernel
theorem dX7_breach_42 : decode cX7_breach 42 = .ok (.goto 4, 3) := by decide +kernel
theorem dX7_breach_45 : decode cX7_breach 45 = .ok (.iconst 0, 1) := by decide +kernel
theorem dX7_breach_46 : decode cX7_breach 46 = .ok (.ireturn, 1) := by decide +kernel
theorem dX7_lanes_0 : decode cX7_lanes 0 = .ok (.aload_n 0, 1) := by decide +kernel
theorem dX7_lanes_1 : decode cX7_lanes 1 = .ok (.getfield 25, 3) := by decide +kernel
theorem dX7_lanes_4 : decode cX7_lanes 4 = .ok (.invokevirtual 123, 3) := by decide +kernel
theorem dX7_lanes_7 : decode cX7_lanes 7 = .ok (.ifCond .eq 13, 3) := by decide +kernel
theorem dX7_lanes_10 : decode cX7_lanes 10 = .ok (.aload_n 0, 1) := by decide +kernel
theorem dX7_lanes_11 : decode cX7_lanes 11 = .ok (.getfield 25, 3) := by decide +kernel
theorem dX7_lanes_14 : decode cX7_lanes 14 = .ok (.invokevirtual 137, 3) := by decide +kernel
theorem dX7_lanes_17 : decode cX7_lanes 17 = .ok (.goto 4, 3) := by decide +kernel
theorem dX7_lanes_20 : decode cX7_lanes 20 = .ok (.iconst (-1), 1) := by decide +kernel
theorem dX7_lanes_21 : decode cX7_lanes 21 = .ok (.ireturn, 1) := by decide +kernel
theorem dX7_lane_0 : decode cX7_lane 0 = .ok (.aload_n 0, 1) := by decide +kernel
theorem dX7_lane_1 : decode cX7_lane 1 = .ok (.getfield 25, 3) := by decide +kernel
theorem dX7_lane_4 : decode cX7_lane 4 = .ok (.iload_n 1, 1) := by decide +kernel
theorem dX7_lane_5 : decode cX7_lane 5 = .ok (.invokevirtual 115, 3) := by decide +kernel
theorem dX7_lane_8 : decode cX7_lane 8 = .ok (.ifCond .eq 14, 3) := by decide +kernel
theorem dX7_lane_11 : decode cX7_lane 11 = .ok (.aload_n 0, 1) := by decide +kernel
theorem dX7_lane_12 : decode cX7_lane 12 = .ok (.getfield 25, 3) := by decide +kernel
theorem dX7_lane_15 : decode cX7_lane 15 = .ok (.iload_n 1, 1) := by decide +kernel
theorem dX7_lane_16 : decode cX7_lane 16 = .ok (.invokevirtual 140, 3) := by decide +kernel
theorem dX7_lane_19 : decode cX7_lane 19 = .ok (.goto 4, 3) := by decide +kernel
theorem dX7_lane_22 : decode cX7_lane 22 = .ok (.iconst (-1), 1) := by decide +kernel
theorem dX7_lane_23 : decode cX7_lane 23 = .ok (.ireturn, 1) := by decide +kernel
theorem dX7_way_0 : decode cX7_way 0 = .ok (.iload_n 1, 1) := by decide +kernel
theorem dX7_way_1 : decode cX7_way 1 = .ok (.iload_n 2, 1) := by decide +kernel
theorem dX7_way_2 : decode cX7_way 2 = .ok (.iload_n 3, 1) := by decide +kernel
theorem dX7_way_3 : decode cX7_way 3 = .ok (.invokestatic 143, 3) := by decide +kernel
theorem dX7_way_6 : decode cX7_way 6 = .ok (.ifCond .eq 16, 3) := by decide +kernel
theorem dX7_way_9 : decode cX7_way 9 = .ok (.iload 4, 2) := by decide +kernel
theorem dX7_way_11 : decode cX7_way 11 = .ok (.ifCond .lt 11, 3) := by decide +kernel
theorem dX7_way_14 : decode cX7_way 14 = .ok (.iload 4, 2) := by decide +kernel
theorem dX7_way_16 : decode cX7_way 16 = .ok (.sipush 1440, 3) := by decide +kernel
theorem dX7_way_19 : decode cX7_way 19 = .ok (.if_icmp .lt 5, 3) := by decide +kernel
theorem dX7_way_22 : decode cX7_way 22 = .ok (.iconst (-1), 1) := by decide +kernel
theorem dX7_way_23 : decode cX7_way 23 = .ok (.ireturn, 1) := by decide +kernel
theorem dX7_way_24 : decode cX7_way 24 = .ok (.aload_n 0, 1) := by decide +kernel
theorem dX7_way_25 : decode cX7_way 25 = .ok (.getfield 32, 3) := by decide +kernel
theorem dX7_way_28 : decode cX7_way 28 = .ok (.aload_n 0, 1) := by decide +kernel
theorem dX7_way_29 : decode cX7_way 29 = .ok (.getfield 11, 3) := by decide +kernel
theorem dX7_way_32 : decode cX7_way 32 = .ok (.aload_n 0, 1) := by decide +kernel
theorem dX7_way_33 : decode cX7_way 33 = .ok (.getfield 45, 3) := by decide +kernel
theorem dX7_way_36 : decode cX7_way 36 = .ok (.iload_n 3, 1) := by decide +kernel
theorem dX7_way_37 : decode cX7_way 37 = .ok (.aload_n 0, 1) := by decide +kernel
theorem dX7_way_38 : decode cX7_way 38 = .ok (.getfield 36, 3) := by decide +kernel
theorem dX7_way_41 : decode cX7_way 41 = .ok (.invokevirtual 146, 3) := by decide +kernel
theorem dX7_way_44 : decode cX7_way 44 = .ok (.aload_n 0, 1) := by decide +kernel
theorem dX7_way_45 : decode cX7_way 45 = .ok (.getfield 32, 3) := by decide +kernel
theorem dX7_way_48 : decode cX7_way 48 = .ok (.iload_n 1, 1) := by decide +kernel
theorem dX7_way_49 : decode cX7_way 49 = .ok (.iload_n 2, 1) := by decide +kernel
theorem dX7_way_50 : decode cX7_way 50 = .ok (.iload 4, 2) := by decide +kernel
theorem dX7_way_52 : decode cX7_way 52 = .ok (.invokevirtual 150, 3) := by decide +kernel
end
section
theorem dX7_way_55 : decode cX7_way 55 = .ok (.ifCond .eq 15, 3) := by decide +kernel
theorem dX7_way_58 : decode cX7_way 58 = .ok (.aload_n 0, 1) := by decide +kernel
theorem dX7_way_59 : decode cX7_way 59 = .ok (.getfield 32, 3) := by decide +kernel
theorem dX7_way_62 : decode cX7_way 62 = .ok (.iload 5, 2) := by decide +kernel
theorem dX7_way_64 : decode cX7_way 64 = .ok (.invokevirtual 153, 3) := by decide +kernel
theorem dX7_way_67 : decode cX7_way 67 = .ok (.goto 4, 3) := by decide +kernel
theorem dX7_way_70 : decode cX7_way 70 = .ok (.iconst (-1), 1) := by decide +kernel
theorem dX7_way_71 : decode cX7_way 71 = .ok (.ireturn, 1) := by decide +kernel
theorem dX7_departures_0 : decode cX7_departures 0 = .ok (.iload_n 1, 1) := by decide +kernel
theorem dX7_departures_1 : decode cX7_departures 1 = .ok (.iload_n 2, 1) := by decide +kernel
theorem dX7_departures_2 : decode cX7_departures 2 = .ok (.iload_n 3, 1) := by decide +kernel
theorem dX7_departures_3 : decode cX7_departures 3 = .ok (.invokestatic 143, 3) := by decide +kernel
theorem dX7_departures_6 : decode cX7_departures 6 = .ok (.ifCond .ne 5, 3) := by decide +kernel
theorem dX7_departures_9 : decode cX7_departures 9 = .ok (.iconst (-1), 1) := by decide +kernel
theorem dX7_departures_10 : decode cX7_departures 10 = .ok (.ireturn, 1) := by decide +kernel
theorem dX7_departures_11 : decode cX7_departures 11 = .ok (.aload_n 0, 1) := by decide +kernel
theorem dX7_departures_12 : decode cX7_departures 12 = .ok (.getfield 32, 3) := by decide +kernel
theorem dX7_departures_15 : decode cX7_departures 15 = .ok (.aload_n 0, 1) := by decide +kernel
theorem dX7_departures_16 : decode cX7_departures 16 = .ok (.getfield 11, 3) := by decide +kernel
theorem dX7_departures_19 : decode cX7_departures 19 = .ok (.aload_n 0, 1) := by decide +kernel
theorem dX7_departures_20 : decode cX7_departures 20 = .ok (.getfield 45, 3) := by decide +kernel
theorem dX7_departures_23 : decode cX7_departures 23 = .ok (.iload_n 3, 1) := by decide +kernel
theorem dX7_departures_24 : decode cX7_departures 24 = .ok (.aload_n 0, 1) := by decide +kernel
theorem dX7_departures_25 : decode cX7_departures 25 = .ok (.getfield 36, 3) := by decide +kernel
theorem dX7_departures_28 : decode cX7_departures 28 = .ok (.invokevirtual 146, 3) := by decide +kernel
theorem dX7_departures_31 : decode cX7_departures 31 = .ok (.aload_n 0, 1) := by decide +kernel
theorem dX7_departures_32 : decode cX7_departures 32 = .ok (.getfield 32, 3) := by decide +kernel
theorem dX7_departures_35 : decode cX7_departures 35 = .ok (.iload_n 1, 1) := by decide +kernel
theorem dX7_departures_36 : decode cX7_departures 36 = .ok (.iload_n 2, 1) := by decide +kernel
theorem dX7_departures_37 : decode cX7_departures 37 = .ok (.invokevirtual 154, 3) := by decide +kernel
theorem dX7_departures_40 : decode cX7_departures 40 = .ok (.ireturn, 1) := by decide +kernel
theorem dX7_departure_0 : decode cX7_departure 0 = .ok (.iload_n 1, 1) := by decide +kernel
theorem dX7_departure_1 : decode cX7_departure 1 = .ok (.iload_n 2, 1) := by decide +kernel
theorem dX7_departure_2 : decode cX7_departure 2 = .ok (.iload_n 3, 1) := by decide +kernel
theorem dX7_departure_3 : decode cX7_departure 3 = .ok (.invokestatic 143, 3) := by decide +kernel
theorem dX7_departure_6 : decode cX7_departure 6 = .ok (.ifCond .ne 5, 3) := by decide +kernel
theorem dX7_departure_9 : decode cX7_departure 9 = .ok (.iconst (-1), 1) := by decide +kernel
theorem dX7_departure_10 : decode cX7_departure 10 = .ok (.ireturn, 1) := by decide +kernel
theorem dX7_departure_11 : decode cX7_departure 11 = .ok (.aload_n 0, 1) := by decide +kernel
theorem dX7_departure_12 : decode cX7_departure 12 = .ok (.getfield 32, 3) := by decide +kernel
theorem dX7_departure_15 : decode cX7_departure 15 = .ok (.aload_n 0, 1) := by decide +kernel
theorem dX7_departure_16 : decode cX7_departure 16 = .ok (.getfield 11, 3) := by decide +kernel
theorem dX7_departure_19 : decode cX7_departure 19 = .ok (.aload_n 0, 1) := by decide +kernel
theorem dX7_departure_20 : decode cX7_departure 20 = .ok (.getfield 45, 3) := by decide +kernel
theorem dX7_departure_23 : decode cX7_departure 23 = .ok (.iload_n 3, 1) := by decide +kernel
theorem dX7_departure_24 : decode cX7_departure 24 = .ok (.aload_n 0, 1) := by decide +kernel
theorem dX7_departure_25 : decode cX7_departure 25 = .ok (.getfield 36, 3) := by decide +kernel
theorem dX7_departure_28 : decode cX7_departure 28 = .ok (.invokevirtual 146, 3) := by decide +kernel
theorem dX7_departure_31 : decode cX7_departure 31 = .ok (.aload_n 0, 1) := by decide +kernel
theorem dX7_departure_32 : decode cX7_departure 32 = .ok (.getfield 32, 3) := by decide +kernel
theorem dX7_departure_35 : decode cX7_departure 35 = .ok (.iload_n 1, 1) := by decide +kernel
theorem dX7_departure_36 : decode cX7_departure 36 = .ok (.iload_n 2, 1) := by decide +kernel
theorem dX7_departure_37 : decode cX7_departure 37 = .ok (.invokevirtual 154, 3) := by decide +kernel
theorem dX7_departure_40 : decode cX7_departure 40 = .ok (.istore 5, 2) := by decide +kernel
theorem dX7_departure_42 : decode cX7_departure 42 = .ok (.iload 4, 2) := by decide +kernel
theorem dX7_departure_44 : decode cX7_departure 44 = .ok (.ifCond .lt 22, 3) := by decide +kernel
theorem dX7_departure_47 : decode cX7_departure 47 = .ok (.iload 4, 2) := by decide +kernel
theorem dX7_departure_49 : decode cX7_departure 49 = .ok (.iload 5, 2) := by decide +kernel
theorem dX7_departure_51 : decode cX7_departure 51 = .ok (.if_icmp .ge 15, 3) := by decide +kernel
theorem dX7_departure_54 : decode cX7_departure 54 = .ok (.aload_n 0, 1) := by decide +kernel
theorem dX7_departure_55 : decode cX7_departure 55 = .ok (.getfield 32, 3) := by decide +kernel
theorem dX7_departure_58 : decode cX7_departure 58 = .ok (.iload 4, 2) := by decide +kernel
theorem dX7_departure_60 : decode cX7_departure 60 = .ok (.invokevirtual 158, 3) := by decide +kernel
theorem dX7_departure_63 : decode cX7_departure 63 = .ok (.goto 4, 3) := by decide +kernel
theorem dX7_departure_66 : decode cX7_departure 66 = .ok (.iconst (-1), 1) := by decide +kernel
theorem dX7_departure_67 : decode cX7_departure 67 = .ok (.ireturn, 1) := by decide +kernel
theorem dX7_areDays_0 : decode cX7_areDays 0 = .ok (.iload_n 0, 1) := by decide +kernel
theorem dX7_areDays_1 : decode cX7_areDays 1 = .ok (.ifCond .le 13, 3) := by decide +kernel
theorem dX7_areDays_4 : decode cX7_areDays 4 = .ok (.iload_n 0, 1) := by decide +kernel
theorem dX7_areDays_5 : decode cX7_areDays 5 = .ok (.bipush 127, 2) := by decide +kernel
theorem dX7_areDays_7 : decode cX7_areDays 7 = .ok (.if_icmp .gt 7, 3) := by decide +kernel
theorem dX7_areDays_10 : decode cX7_areDays 10 = .ok (.iconst 1, 1) := by decide +kernel
theorem dX7_areDays_11 : decode cX7_areDays 11 = .ok (.goto 4, 3) := by decide +kernel
theorem dX7_areDays_14 : decode cX7_areDays 14 = .ok (.iconst 0, 1) := by decide +kernel
theorem dX7_areDays_15 : decode cX7_areDays 15 = .ok (.ireturn, 1) := by decide +kernel
theorem dX7_isStation_0 : decode cX7_isStation 0 = .ok (.iload_n 0, 1) := by decide +kernel
theorem dX7_isStation_1 : decode cX7_isStation 1 = .ok (.ifCond .lt 13, 3) := by decide +kernel
theorem dX7_isStation_4 : decode cX7_isStation 4 = .ok (.iload_n 0, 1) := by decide +kernel
theorem dX7_isStation_5 : decode cX7_isStation 5 = .ok (.bipush 12, 2) := by decide +kernel
theorem dX7_isStation_7 : decode cX7_isStation 7 = .ok (.if_icmp .ge 7, 3) := by decide +kernel
theorem dX7_isStation_10 : decode cX7_isStation 10 = .ok (.iconst 1, 1) := by decide +kernel
theorem dX7_isStation_11 : decode cX7_isStation 11 = .ok (.goto 4, 3) := by decide +kernel
theorem dX7_isStation_14 : decode cX7_isStation 14 = .ok (.iconst 0, 1) := by decide +kernel
theorem dX7_isStation_15 : decode cX7_isStation 15 = .ok (.ireturn, 1) := by decide +kernel
theorem dX7_canTravel_0 : decode cX7_canTravel 0 = .ok (.iload_n 0, 1) := by decide +kernel
theorem dX7_canTravel_1 : decode cX7_canTravel 1 = .ok (.invokestatic 55, 3) := by decide +kernel
theorem dX7_canTravel_4 : decode cX7_canTravel 4 = .ok (.ifCond .eq 29, 3) := by decide +kernel
theorem dX7_canTravel_7 : decode cX7_canTravel 7 = .ok (.iload_n 1, 1) := by decide +kernel
theorem dX7_canTravel_8 : decode cX7_canTravel 8 = .ok (.invokestatic 55, 3) := by decide +kernel
theorem dX7_canTravel_11 : decode cX7_canTravel 11 = .ok (.ifCond .eq 22, 3) := by decide +kernel
theorem dX7_canTravel_14 : decode cX7_canTravel 14 = .ok (.iload_n 0, 1) := by decide +kernel
theorem dX7_canTravel_15 : decode cX7_canTravel 15 = .ok (.iload_n 1, 1) := by decide +kernel
theorem dX7_canTravel_16 : decode cX7_canTravel 16 = .ok (.if_icmp .eq 17, 3) := by decide +kernel
theorem dX7_canTravel_19 : decode cX7_canTravel 19 = .ok (.iload_n 2, 1) := by decide +kernel
theorem dX7_canTravel_20 : decode cX7_canTravel 20 = .ok (.ifCond .lt 13, 3) := by decide +kernel
theorem dX7_canTravel_23 : decode cX7_canTravel 23 = .ok (.iload_n 2, 1) := by decide +kernel
theorem dX7_canTravel_24 : decode cX7_canTravel 24 = .ok (.bipush 7, 2) := by decide +kernel
theorem dX7_canTravel_26 : decode cX7_canTravel 26 = .ok (.if_icmp .ge 7, 3) := by decide +kernel
theorem dX7_canTravel_29 : decode cX7_canTravel 29 = .ok (.iconst 1, 1) := by decide +kernel
theorem dX7_canTravel_30 : decode cX7_canTravel 30 = .ok (.goto 4, 3) := by decide +kernel
theorem dX7_canTravel_33 : decode cX7_canTravel 33 = .ok (.iconst 0, 1) := by decide +kernel
theorem dX7_canTravel_34 : decode cX7_canTravel 34 = .ok (.ireturn, 1) := by decide +kernel
theorem dX7_trainOf_0 : decode cX7_trainOf 0 = .ok (.iload_n 1, 1) := by decide +kernel
theorem dX7_trainOf_1 : decode cX7_trainOf 1 = .ok (.ifCond .lt 20, 3) := by decide +kernel
theorem dX7_trainOf_4 : decode cX7_trainOf 4 = .ok (.iload_n 1, 1) := by decide +kernel
theorem dX7_trainOf_5 : decode cX7_trainOf 5 = .ok (.aload_n 0, 1) := by decide +kernel
theorem dX7_trainOf_6 : decode cX7_trainOf 6 = .ok (.getfield 45, 3) := by decide +kernel
theorem dX7_trainOf_9 : decode cX7_trainOf 9 = .ok (.if_icmp .ge 12, 3) := by decide +kernel
theorem dX7_trainOf_12 : decode cX7_trainOf 12 = .ok (.aload_n 0, 1) := by decide +kernel
theorem dX7_trainOf_13 : decode cX7_trainOf 13 = .ok (.getfield 11, 3) := by decide +kernel
theorem dX7_trainOf_16 : decode cX7_trainOf 16 = .ok (.iload_n 1, 1) := by decide +kernel
theorem dX7_trainOf_17 : decode cX7_trainOf 17 = .ok (.aaload, 1) := by decide +kernel
theorem dX7_trainOf_18 : decode cX7_trainOf 18 = .ok (.goto 4, 3) := by decide +kernel
theorem dX7_trainOf_21 : decode cX7_trainOf 21 = .ok (.aconst_null, 1) := by decide +kernel
theorem dX7_trainOf_22 : decode cX7_trainOf 22 = .ok (.areturn, 1) := by decide +kernel
theorem dX7_aboutBook_0 : decode cX7_aboutBook 0 = .ok (.iload_n 1, 1) := by decide +kernel
theorem dX7_aboutBook_1 : decode cX7_aboutBook 1 = .ok (.tableswitch 57 0 3 #[31, 36, 41, 49], 31) := by decide +kernel
theorem dX7_aboutBook_32 : decode cX7_aboutBook 32 = .ok (.aload_n 0, 1) := by decide +kernel
theorem dX7_aboutBook_33 : decode cX7_aboutBook 33 = .ok (.getfield 45, 3) := by decide +kernel
theorem dX7_aboutBook_36 : decode cX7_aboutBook 36 = .ok (.ireturn, 1) := by decide +kernel
theorem dX7_aboutBook_37 : decode cX7_aboutBook 37 = .ok (.aload_n 0, 1) := by decide +kernel
theorem dX7_aboutBook_38 : decode cX7_aboutBook 38 = .ok (.getfield 36, 3) := by decide +kernel
theorem dX7_aboutBook_41 : decode cX7_aboutBook 41 = .ok (.ireturn, 1) := by decide +kernel
theorem dX7_aboutBook_42 : decode cX7_aboutBook 42 = .ok (.aload_n 0, 1) := by decide +kernel
theorem dX7_aboutBook_43 : decode cX7_aboutBook 43 = .ok (.getfield 25, 3) := by decide +kernel
theorem dX7_aboutBook_46 : decode cX7_aboutBook 46 = .ok (.invokevirtual 105, 3) := by decide +kernel
theorem dX7_aboutBook_49 : decode cX7_aboutBook 49 = .ok (.ireturn, 1) := by decide +kernel
theorem dX7_aboutBook_50 : decode cX7_aboutBook 50 = .ok (.aload_n 0, 1) := by decide +kernel
theorem dX7_aboutBook_51 : decode cX7_aboutBook 51 = .ok (.getfield 25, 3) := by decide +kernel
theorem dX7_aboutBook_54 : decode cX7_aboutBook 54 = .ok (.invokevirtual 161, 3) := by decide +kernel
theorem dX7_aboutBook_57 : decode cX7_aboutBook 57 = .ok (.ireturn, 1) := by decide +kernel
theorem dX7_aboutBook_58 : decode cX7_aboutBook 58 = .ok (.iconst (-1), 1) := by decide +kernel
theorem dX7_aboutBook_59 : decode cX7_aboutBook 59 = .ok (.ireturn, 1) := by decide +kernel
theorem dX7_canBeTable_0 : decode cX7_canBeTable 0 = .ok (.iload_n 1, 1) := by decide +kernel
theorem dX7_canBeTable_1 : decode cX7_canBeTable 1 = .ok (.ifCond .le 22, 3) := by decide +kernel
theorem dX7_canBeTable_4 : decode cX7_canBeTable 4 = .ok (.iload_n 1, 1) := by decide +kernel
theorem dX7_canBeTable_5 : decode cX7_canBeTable 5 = .ok (.iconst 1, 1) := by decide +kernel
theorem dX7_canBeTable_6 : decode cX7_canBeTable 6 = .ok (.aload_n 0, 1) := by decide +kernel
theorem dX7_canBeTable_7 : decode cX7_canBeTable 7 = .ok (.getfield 45, 3) := by decide +kernel
theorem dX7_canBeTable_10 : decode cX7_canBeTable 10 = .ok (.ishl, 1) := by decide +kernel
theorem dX7_canBeTable_11 : decode cX7_canBeTable 11 = .ok (.if_icmp .ge 12, 3) := by decide +kernel
theorem dX7_canBeTable_14 : decode cX7_canBeTable 14 = .ok (.iload_n 1, 1) := by decide +kernel
theorem dX7_canBeTable_15 : decode cX7_canBeTable 15 = .ok (.invokestatic 93, 3) := by decide +kernel
theorem dX7_canBeTable_18 : decode cX7_canBeTable 18 = .ok (.bipush 6, 2) := by decide +kernel
theorem dX7_canBeTable_20 : decode cX7_canBeTable 20 = .ok (.if_icmp .le 5, 3) := by decide +kernel
theorem dX7_canBeTable_23 : decode cX7_canBeTable 23 = .ok (.iconst 0, 1) := by decide +kernel
theorem dX7_canBeTable_24 : decode cX7_canBeTable 24 = .ok (.ireturn, 1) := by decide +kernel
theorem dX7_canBeTable_25 : decode cX7_canBeTable 25 = .ok (.iconst 0, 1) := by decide +kernel
theorem dX7_canBeTable_26 : decode cX7_canBeTable 26 = .ok (.istore_n 2, 1) := by decide +kernel
theorem dX7_canBeTable_27 : decode cX7_canBeTable 27 = .ok (.iload_n 2, 1) := by decide +kernel
theorem dX7_canBeTable_28 : decode cX7_canBeTable 28 = .ok (.aload_n 0, 1) := by decide +kernel
theorem dX7_canBeTable_29 : decode cX7_canBeTable 29 = .ok (.getfield 45, 3) := by decide +kernel
theorem dX7_canBeTable_32 : decode cX7_canBeTable 32 = .ok (.if_icmp .ge 32, 3) := by decide +kernel
theorem dX7_canBeTable_35 : decode cX7_canBeTable 35 = .ok (.iload_n 1, 1) := by decide +kernel
theorem dX7_canBeTable_36 : decode cX7_canBeTable 36 = .ok (.iload_n 2, 1) := by decide +kernel
theorem dX7_canBeTable_37 : decode cX7_canBeTable 37 = .ok (.ishr, 1) := by decide +kernel
theorem dX7_canBeTable_38 : decode cX7_canBeTable 38 = .ok (.iconst 1, 1) := by decide +kernel
theorem dX7_canBeTable_39 : decode cX7_canBeTable 39 = .ok (.iand, 1) := by decide +kernel
theorem dX7_canBeTable_40 : decode cX7_canBeTable 40 = .ok (.ifCond .eq 18, 3) := by decide +kernel
theorem dX7_canBeTable_43 : decode cX7_canBeTable 43 = .ok (.aload_n 0, 1) := by decide +kernel
theorem dX7_canBeTable_44 : decode cX7_canBeTable 44 = .ok (.getfield 11, 3) := by decide +kernel
theorem dX7_canBeTable_47 : decode cX7_canBeTable 47 = .ok (.iload_n 2, 1) := by decide +kernel
theorem dX7_canBeTable_48 : decode cX7_canBeTable 48 = .ok (.aaload, 1) := by decide +kernel
theorem dX7_canBeTable_49 : decode cX7_canBeTable 49 = .ok (.getfield 66, 3) := by decide +kernel
theorem dX7_canBeTable_52 : decode cX7_canBeTable 52 = .ok (.iconst 2, 1) := by decide +kernel
theorem dX7_canBeTable_53 : decode cX7_canBeTable 53 = .ok (.if_icmp .ge 5, 3) := by decide +kernel
theorem dX7_canBeTable_56 : decode cX7_canBeTable 56 = .ok (.iconst 0, 1) := by decide +kernel
theorem dX7_canBeTable_57 : decode cX7_canBeTable 57 = .ok (.ireturn, 1) := by decide +kernel
theorem dX7_canBeTable_58 : decode cX7_canBeTable 58 = .ok (.iinc 2 1, 3) := by decide +kernel
theorem dX7_canBeTable_61 : decode cX7_canBeTable 61 = .ok (.goto (-34), 3) := by decide +kernel
theorem dX7_canBeTable_64 : decode cX7_canBeTable 64 = .ok (.iconst 1, 1) := by decide +kernel
theorem dX7_canBeTable_65 : decode cX7_canBeTable 65 = .ok (.ireturn, 1) := by decide +kernel
theorem dX8_init_0 : decode cX8_init 0 = .ok (.aload_n 0, 1) := by decide +kernel
theorem dX8_init_1 : decode cX8_init 1 = .ok (.invokespecial 1, 3) := by decide +kernel
theorem dX8_init_4 : decode cX8_init 4 = .ok (.aload_n 0, 1) := by decide +kernel
theorem dX8_init_5 : decode cX8_init 5 = .ok (.iconst 5, 1) := by decide +kernel
theorem dX8_init_6 : decode cX8_init 6 = .ok (.putfield 7, 3) := by decide +kernel
theorem dX8_init_9 : decode cX8_init 9 = .ok (.aload_n 0, 1) := by decide +kernel
theorem dX8_init_10 : decode cX8_init 10 = .ok (.bipush 10, 2) := by decide +kernel
theorem dX8_init_12 : decode cX8_init 12 = .ok (.newarray .int, 2) := by decide +kernel
theorem dX8_init_14 : decode cX8_init 14 = .ok (.putfield 13, 3) := by decide +kernel
theorem dX8_init_17 : decode cX8_init 17 = .ok (.aload_n 0, 1) := by decide +kernel
theorem dX8_init_18 : decode cX8_init 18 = .ok (.bipush 10, 2) := by decide +kernel
theorem dX8_init_20 : decode cX8_init 20 = .ok (.newarray .int, 2) := by decide +kernel
theorem dX8_init_22 : decode cX8_init 22 = .ok (.putfield 17, 3) := by decide +kernel
theorem dX8_init_25 : decode cX8_init 25 = .ok (.aload_n 0, 1) := by decide +kernel
theorem dX8_init_26 : decode cX8_init 26 = .ok (.bipush 70, 2) := by decide +kernel
theorem dX8_init_28 : decode cX8_init 28 = .ok (.newarray .int, 2) := by decide +kernel
theorem dX8_init_30 : decode cX8_init 30 = .ok (.putfield 20, 3) := by decide +kernel
theorem dX8_init_33 : decode cX8_init 33 = .ok (.aload_n 0, 1) := by decide +kernel
theorem dX8_init_34 : decode cX8_init 34 = .ok (.bipush 70, 2) := by decide +kernel
theorem dX8_init_36 : decode cX8_init 36 = .ok (.newarray .int, 2) := by decide +kernel
theorem dX8_init_38 : decode cX8_init 38 = .ok (.putfield 23, 3) := by decide +kernel
theorem dX8_init_41 : decode cX8_init 41 = .ok (.aload_n 0, 1) := by decide +kernel
theorem dX8_init_42 : decode cX8_init 42 = .ok (.bipush 70, 2) := by decide +kernel
theorem dX8_init_44 : decode cX8_init 44 = .ok (.newarray .int, 2) := by decide +kernel
theorem dX8_init_46 : decode cX8_init 46 = .ok (.putfield 26, 3) := by decide +kernel
theorem dX8_init_49 : decode cX8_init 49 = .ok (.aload_n 0, 1) := by decide +kernel
theorem dX8_init_50 : decode cX8_init 50 = .ok (.bipush 13, 2) := by decide +kernel
theorem dX8_init_52 : decode cX8_init 52 = .ok (.newarray .int, 2) := by decide +kernel
theorem dX8_init_54 : decode cX8_init 54 = .ok (.dup, 1) := by decide +kernel
theorem dX8_init_55 : decode cX8_init 55 = .ok (.iconst 0, 1) := by decide +kernel
theorem dX8_init_56 : decode cX8_init 56 = .ok (.iconst 1, 1) := by decide +kernel
theorem dX8_init_57 : decode cX8_init 57 = .ok (.iastore, 1) := by decide +kernel
theorem dX8_init_58 : decode cX8_init 58 = .ok (.dup, 1) := by decide +kernel
theorem dX8_init_59 : decode cX8_init 59 = .ok (.iconst 1, 1) := by decide +kernel
theorem dX8_init_60 : decode cX8_init 60 = .ok (.iconst 2, 1) := by decide +kernel
theorem dX8_init_61 : decode cX8_init 61 = .ok (.iastore, 1) := by decide +kernel
theorem dX8_init_62 : decode cX8_init 62 = .ok (.dup, 1) := by decide +kernel
theorem dX8_init_63 : decode cX8_init 63 = .ok (.iconst 2, 1) := by decide +kernel
theorem dX8_init_64 : decode cX8_init 64 = .ok (.iconst 4, 1) := by decide +kernel
theorem dX8_init_65 : decode cX8_init 65 = .ok (.iastore, 1) := by decide +kernel
theorem dX8_init_66 : decode cX8_init 66 = .ok (.dup, 1) := by decide +kernel
theorem dX8_init_67 : decode cX8_init 67 = .ok (.iconst 3, 1) := by decide +kernel
theorem dX8_init_68 : decode cX8_init 68 = .ok (.bipush 8, 2) := by decide +kernel
theorem dX8_init_70 : decode cX8_init 70 = .ok (.iastore, 1) := by decide +kernel
theorem dX8_init_71 : decode cX8_init 71 = .ok (.dup, 1) := by decide +kernel
theorem dX8_init_72 : decode cX8_init 72 = .ok (.iconst 4, 1) := by decide +kernel
theorem dX8_init_73 : decode cX8_init 73 = .ok (.bipush 16, 2) := by decide +kernel
theorem dX8_init_75 : decode cX8_init 75 = .ok (.iastore, 1) := by decide +kernel
theorem dX8_init_76 : decode cX8_init 76 = .ok (.dup, 1) := by decide +kernel
theorem dX8_init_77 : decode cX8_init 77 = .ok (.iconst 5, 1) := by decide +kernel
theorem dX8_init_78 : decode cX8_init 78 = .ok (.bipush 32, 2) := by decide +kernel
theorem dX8_init_80 : decode cX8_init 80 = .ok (.iastore, 1) := by decide +kernel
theorem dX8_init_81 : decode cX8_init 81 = .ok (.dup, 1) := by decide +kernel
theorem dX8_init_82 : decode cX8_init 82 = .ok (.bipush 6, 2) := by decide +kernel
theorem dX8_init_84 : decode cX8_init 84 = .ok (.bipush 64, 2) := by decide +kernel
theorem dX8_init_86 : decode cX8_init 86 = .ok (.iastore, 1) := by decide +kernel
theorem dX8_init_87 : decode cX8_init 87 = .ok (.dup, 1) := by decide +kernel
theorem dX8_init_88 : decode cX8_init 88 = .ok (.bipush 7, 2) := by decide +kernel
theorem dX8_init_90 : decode cX8_init 90 = .ok (.iconst 0, 1) := by decide +kernel
theorem dX8_init_91 : decode cX8_init 91 = .ok (.iastore, 1) := by decide +kernel
theorem dX8_init_92 : decode cX8_init 92 = .ok (.dup, 1) := by decide +kernel
theorem dX8_init_93 : decode cX8_init 93 = .ok (.bipush 8, 2) := by decide +kernel
theorem dX8_init_95 : decode cX8_init 95 = .ok (.iconst 0, 1) := by decide +kernel
theorem dX8_init_96 : decode cX8_init 96 = .ok (.iastore, 1) := by decide +kernel
theorem dX8_init_97 : decode cX8_init 97 = .ok (.dup, 1) := by decide +kernel
theorem dX8_init_98 : decode cX8_init 98 = .ok (.bipush 9, 2) := by decide +kernel
theorem dX8_init_100 : decode cX8_init 100 = .ok (.iconst 0, 1) := by decide +kernel
theorem dX8_init_101 : decode cX8_init 101 = .ok (.iastore, 1) := by decide +kernel
theorem dX8_init_102 : decode cX8_init 102 = .ok (.dup, 1) := by decide +kernel
theorem dX8_init_103 : decode cX8_init 103 = .ok (.bipush 10, 2) := by decide +kernel
theorem dX8_init_105 : decode cX8_init 105 = .ok (.iconst 0, 1) := by decide +kernel
theorem dX8_init_106 : decode cX8_init 106 = .ok (.iastore, 1) := by decide +kernel
theorem dX8_init_107 : decode cX8_init 107 = .ok (.dup, 1) := by decide +kernel
theorem dX8_init_108 : decode cX8_init 108 = .ok (.bipush 11, 2) := by decide +kernel
theorem dX8_init_110 : decode cX8_init 110 = .ok (.iconst 0, 1) := by decide +kernel
theorem dX8_init_111 : decode cX8_init 111 = .ok (.iastore, 1) := by decide +kernel
theorem dX8_init_112 : decode cX8_init 112 = .ok (.dup, 1) := by decide +kernel
theorem dX8_init_113 : decode cX8_init 113 = .ok (.bipush 12, 2) := by decide +kernel
theorem dX8_init_115 : decode cX8_init 115 = .ok (.iconst 0, 1) := by decide +kernel
theorem dX8_init_116 : decode cX8_init 116 = .ok (.iastore, 1) := by decide +kernel
theorem dX8_init_117 : decode cX8_init 117 = .ok (.putfield 29, 3) := by decide +kernel
theorem dX8_init_120 : decode cX8_init 120 = .ok (.aload_n 0, 1) := by decide +kernel
theorem dX8_init_121 : decode cX8_init 121 = .ok (.bipush 42, 2) := by decide +kernel
theorem dX8_init_123 : decode cX8_init 123 = .ok (.newarray .int, 2) := by decide +kernel
theorem dX8_init_125 : decode cX8_init 125 = .ok (.putfield 32, 3) := by decide +kernel
theorem dX8_init_128 : decode cX8_init 128 = .ok (.aload_n 0, 1) := by decide +kernel
theorem dX8_init_129 : decode cX8_init 129 = .ok (.bipush 6, 2) := by decide +kernel
theorem dX8_init_131 : decode cX8_init 131 = .ok (.newarray .int, 2) := by decide +kernel
theorem dX8_init_133 : decode cX8_init 133 = .ok (.putfield 35, 3) := by decide +kernel
theorem dX8_init_136 : decode cX8_init 136 = .ok (.aload_n 0, 1) := by decide +kernel
theorem dX8_init_137 : decode cX8_init 137 = .ok (.bipush 6, 2) := by decide +kernel
theorem dX8_init_139 : decode cX8_init 139 = .ok (.newarray .int, 2) := by decide +kernel
theorem dX8_init_141 : decode cX8_init 141 = .ok (.putfield 38, 3) := by decide +kernel
theorem dX8_init_144 : decode cX8_init 144 = .ok (.aload_n 0, 1) := by decide +kernel
theorem dX8_init_145 : decode cX8_init 145 = .ok (.bipush 42, 2) := by decide +kernel
theorem dX8_init_147 : decode cX8_init 147 = .ok (.newarray .int, 2) := by decide +kernel
theorem dX8_init_149 : decode cX8_init 149 = .ok (.putfield 41, 3) := by decide +kernel
theorem dX8_init_152 : decode cX8_init 152 = .ok (.aload_n 0, 1) := by decide +kernel
theorem dX8_init_153 : decode cX8_init 153 = .ok (.bipush 42, 2) := by decide +kernel
theorem dX8_init_155 : decode cX8_init 155 = .ok (.newarray .int, 2) := by decide +kernel
theorem dX8_init_157 : decode cX8_init 157 = .ok (.putfield 44, 3) := by decide +kernel
theorem dX8_init_160 : decode cX8_init 160 = .ok (.aload_n 0, 1) := by decide +kernel
theorem dX8_init_161 : decode cX8_init 161 = .ok (.bipush 42, 2) := by decide +kernel
theorem dX8_init_163 : decode cX8_init 163 = .ok (.newarray .int, 2) := by decide +kernel
theorem dX8_init_165 : decode cX8_init 165 = .ok (.putfield 47, 3) := by decide +kernel
theorem dX8_init_168 : decode cX8_init 168 = .ok (.aload_n 0, 1) := by decide +kernel
theorem dX8_init_169 : decode cX8_init 169 = .ok (.bipush 42, 2) := by decide +kernel
theorem dX8_init_171 : decode cX8_init 171 = .ok (.newarray .int, 2) := by decide +kernel
theorem dX8_init_173 : decode cX8_init 173 = .ok (.putfield 50, 3) := by decide +kernel
theorem dX8_init_176 : decode cX8_init 176 = .ok (.aload_n 0, 1) := by decide +kernel
theorem dX8_init_177 : decode cX8_init 177 = .ok (.bipush 6, 2) := by decide +kernel
theorem dX8_init_179 : decode cX8_init 179 = .ok (.newarray .int, 2) := by decide +kernel
theorem dX8_init_181 : decode cX8_init 181 = .ok (.putfield 53, 3) := by decide +kernel
theorem dX8_init_184 : decode cX8_init 184 = .ok (.aload_n 0, 1) := by decide +kernel
theorem dX8_init_185 : decode cX8_init 185 = .ok (.bipush 6, 2) := by decide +kernel
theorem dX8_init_187 : decode cX8_init 187 = .ok (.newarray .int, 2) := by decide +kernel
theorem dX8_init_189 : decode cX8_init 189 = .ok (.putfield 56, 3) := by decide +kernel
theorem dX8_init_192 : decode cX8_init 192 = .ok (.aload_n 0, 1) := by decide +kernel
theorem dX8_init_193 : decode cX8_init 193 = .ok (.ldc 59, 2) := by decide +kernel
theorem dX8_init_195 : decode cX8_init 195 = .ok (.newarray .int, 2) := by decide +kernel
theorem dX8_init_197 : decode cX8_init 197 = .ok (.putfield 60, 3) := by decide +kernel
theorem dX8_init_200 : decode cX8_init 200 = .ok (.aload_n 0, 1) := by decide +kernel
theorem dX8_init_201 : decode cX8_init 201 = .ok (.bipush 6, 2) := by decide +kernel
theorem dX8_init_203 : decode cX8_init 203 = .ok (.newarray .int, 2) := by decide +kernel
theorem dX8_init_205 : decode cX8_init 205 = .ok (.putfield 63, 3) := by decide +kernel
theorem dX8_init_208 : decode cX8_init 208 = .ok (.aload_n 0, 1) := by decide +kernel
theorem dX8_init_209 : decode cX8_init 209 = .ok (.bipush 70, 2) := by decide +kernel
theorem dX8_init_211 : decode cX8_init 211 = .ok (.newarray .boolean, 2) := by decide +kernel
theorem dX8_init_213 : decode cX8_init 213 = .ok (.putfield 66, 3) := by decide +kernel
theorem dX8_init_216 : decode cX8_init 216 = .ok (.aload_n 0, 1) := by decide +kernel
theorem dX8_init_217 : decode cX8_init 217 = .ok (.sipush 770, 3) := by decide +kernel
theorem dX8_init_220 : decode cX8_init 220 = .ok (.newarray .boolean, 2) := by decide +kernel
theorem dX8_init_222 : decode cX8_init 222 = .ok (.putfield 70, 3) := by decide +kernel
theorem dX8_init_225 : decode cX8_init 225 = .ok (.aload_n 0, 1) := by decide +kernel
theorem dX8_init_226 : decode cX8_init 226 = .ok (.bipush 10, 2) := by decide +kernel
theorem dX8_init_228 : decode cX8_init 228 = .ok (.newarray .int, 2) := by decide +kernel
theorem dX8_init_230 : decode cX8_init 230 = .ok (.putfield 73, 3) := by decide +kernel
theorem dX8_init_233 : decode cX8_init 233 = .ok (.aload_n 0, 1) := by decide +kernel
theorem dX8_init_234 : decode cX8_init 234 = .ok (.bipush 10, 2) := by decide +kernel
theorem dX8_init_236 : decode cX8_init 236 = .ok (.newarray .int, 2) := by decide +kernel
theorem dX8_init_238 : decode cX8_init 238 = .ok (.putfield 76, 3) := by decide +kernel
theorem dX8_init_241 : decode cX8_init 241 = .ok (.aload_n 0, 1) := by decide +kernel
theorem dX8_init_242 : decode cX8_init 242 = .ok (.bipush 10, 2) := by decide +kernel
theorem dX8_init_244 : decode cX8_init 244 = .ok (.newarray .int, 2) := by decide +kernel
theorem dX8_init_246 : decode cX8_init 246 = .ok (.putfield 79, 3) := by decide +kernel
theorem dX8_init_249 : decode cX8_init 249 = .ok (.aload_n 0, 1) := by decide +kernel
theorem dX8_init_250 : decode cX8_init 250 = .ok (.bipush 70, 2) := by decide +kernel
theorem dX8_init_252 : decode cX8_init 252 = .ok (.newarray .boolean, 2) := by decide +kernel
theorem dX8_init_254 : decode cX8_init 254 = .ok (.putfield 82, 3) := by decide +kernel
theorem dX8_init_257 : decode cX8_init 257 = .ok (.aload_n 0, 1) := by decide +kernel
theorem dX8_init_258 : decode cX8_init 258 = .ok (.bipush 70, 2) := by decide +kernel
theorem dX8_init_260 : decode cX8_init 260 = .ok (.newarray .boolean, 2) := by decide +kernel
theorem dX8_init_262 : decode cX8_init 262 = .ok (.putfield 85, 3) := by decide +kernel
theorem dX8_init_265 : decode cX8_init 265 = .ok (.aload_n 0, 1) := by decide +kernel
theorem dX8_init_266 : decode cX8_init 266 = .ok (.bipush 70, 2) := by decide +kernel
theorem dX8_init_268 : decode cX8_init 268 = .ok (.newarray .boolean, 2) := by decide +kernel
theorem dX8_init_270 : decode cX8_init 270 = .ok (.putfield 88, 3) := by decide +kernel
theorem dX8_init_273 : decode cX8_init 273 = .ok (.aload_n 0, 1) := by decide +kernel
theorem dX8_init_274 : decode cX8_init 274 = .ok (.bipush 10, 2) := by decide +kernel
theorem dX8_init_276 : decode cX8_init 276 = .ok (.newarray .int, 2) := by decide +kernel
theorem dX8_init_278 : decode cX8_init 278 = .ok (.putfield 91, 3) := by decide +kernel
theorem dX8_init_281 : decode cX8_init 281 = .ok (.return_, 1) := by decide +kernel
theorem dX8_isTrain_0 : decode cX8_isTrain 0 = .ok (.iload_n 1, 1) := by decide +kernel
theorem dX8_isTrain_1 : decode cX8_isTrain 1 = .ok (.ifCond .lt 15, 3) := by decide +kernel
theorem dX8_isTrain_4 : decode cX8_isTrain 4 = .ok (.iload_n 1, 1) := by decide +kernel
theorem dX8_isTrain_5 : decode cX8_isTrain 5 = .ok (.aload_n 0, 1) := by decide +kernel
theorem dX8_isTrain_6 : decode cX8_isTrain 6 = .ok (.getfield 97, 3) := by decide +kernel
theorem dX8_isTrain_9 : decode cX8_isTrain 9 = .ok (.if_icmp .ge 7, 3) := by decide +kernel
theorem dX8_isTrain_12 : decode cX8_isTrain 12 = .ok (.iconst 1, 1) := by decide +kernel
theorem dX8_isTrain_13 : decode cX8_isTrain 13 = .ok (.goto 4, 3) := by decide +kernel
theorem dX8_isTrain_16 : decode cX8_isTrain 16 = .ok (.iconst 0, 1) := by decide +kernel
theorem dX8_isTrain_17 : decode cX8_isTrain 17 = .ok (.ireturn, 1) := by decide +kernel
theorem dX8_isStation_0 : decode cX8_isStation 0 = .ok (.iload_n 1, 1) := by decide +kernel
theorem dX8_isStation_1 : decode cX8_isStation 1 = .ok (.ifCond .lt 13, 3) := by decide +kernel
theorem dX8_isStation_4 : decode cX8_isStation 4 = .ok (.iload_n 1, 1) := by decide +kernel
theorem dX8_isStation_5 : decode cX8_isStation 5 = .ok (.bipush 12, 2) := by decide +kernel
theorem dX8_isStation_7 : decode cX8_isStation 7 = .ok (.if_icmp .ge 7, 3) := by decide +kernel
theorem dX8_isStation_10 : decode cX8_isStation 10 = .ok (.iconst 1, 1) := by decide +kernel
theorem dX8_isStation_11 : decode cX8_isStation 11 = .ok (.goto 4, 3) := by decide +kernel
theorem dX8_isStation_14 : decode cX8_isStation 14 = .ok (.iconst 0, 1) := by decide +kernel
theorem dX8_isStation_15 : decode cX8_isStation 15 = .ok (.ireturn, 1) := by decide +kernel
theorem dX8_isMinute_0 : decode cX8_isMinute 0 = .ok (.iload_n 1, 1) := by decide +kernel
theorem dX8_isMinute_1 : decode cX8_isMinute 1 = .ok (.ifCond .lt 14, 3) := by decide +kernel
theorem dX8_isMinute_4 : decode cX8_isMinute 4 = .ok (.iload_n 1, 1) := by decide +kernel
theorem dX8_isMinute_5 : decode cX8_isMinute 5 = .ok (.sipush 1440, 3) := by decide +kernel
theorem dX8_isMinute_8 : decode cX8_isMinute 8 = .ok (.if_icmp .ge 7, 3) := by decide +kernel
theorem dX8_isMinute_11 : decode cX8_isMinute 11 = .ok (.iconst 1, 1) := by decide +kernel
theorem dX8_isMinute_12 : decode cX8_isMinute 12 = .ok (.goto 4, 3) := by decide +kernel
theorem dX8_isMinute_15 : decode cX8_isMinute 15 = .ok (.iconst 0, 1) := by decide +kernel
theorem dX8_isMinute_16 : decode cX8_isMinute 16 = .ok (.ireturn, 1) := by decide +kernel
theorem dX8_isDays_0 : decode cX8_isDays 0 = .ok (.iload_n 1, 1) := by decide +kernel
theorem dX8_isDays_1 : decode cX8_isDays 1 = .ok (.iconst 1, 1) := by decide +kernel
theorem dX8_isDays_2 : decode cX8_isDays 2 = .ok (.if_icmp .lt 13, 3) := by decide +kernel
theorem dX8_isDays_5 : decode cX8_isDays 5 = .ok (.iload_n 1, 1) := by decide +kernel
theorem dX8_isDays_6 : decode cX8_isDays 6 = .ok (.bipush 127, 2) := by decide +kernel
theorem dX8_isDays_8 : decode cX8_isDays 8 = .ok (.if_icmp .gt 7, 3) := by decide +kernel
theorem dX8_isDays_11 : decode cX8_isDays 11 = .ok (.iconst 1, 1) := by decide +kernel
theorem dX8_isDays_12 : decode cX8_isDays 12 = .ok (.goto 4, 3) := by decide +kernel
theorem dX8_isDays_15 : decode cX8_isDays 15 = .ok (.iconst 0, 1) := by decide +kernel
theorem dX8_isDays_16 : decode cX8_isDays 16 = .ok (.ireturn, 1) := by decide +kernel
theorem dX8_train_0 : decode cX8_train 0 = .ok (.aload_n 0, 1) := by decide +kernel
theorem dX8_train_1 : decode cX8_train 1 = .ok (.iconst 0, 1) := by decide +kernel
theorem dX8_train_2 : decode cX8_train 2 = .ok (.putfield 94, 3) := by decide +kernel
theorem dX8_train_5 : decode cX8_train 5 = .ok (.aload_n 0, 1) := by decide +kernel
theorem dX8_train_6 : decode cX8_train 6 = .ok (.iload_n 1, 1) := by decide +kernel
theorem dX8_train_7 : decode cX8_train 7 = .ok (.invokevirtual 100, 3) := by decide +kernel
theorem dX8_train_10 : decode cX8_train 10 = .ok (.ifCond .eq 12, 3) := by decide +kernel
theorem dX8_train_13 : decode cX8_train 13 = .ok (.aload_n 0, 1) := by decide +kernel
theorem dX8_train_14 : decode cX8_train 14 = .ok (.getfield 97, 3) := by decide +kernel
theorem dX8_train_17 : decode cX8_train 17 = .ok (.bipush 10, 2) := by decide +kernel
theorem dX8_train_19 : decode cX8_train 19 = .ok (.if_icmp .ne 5, 3) := by decide +kernel
theorem dX8_train_22 : decode cX8_train 22 = .ok (.iconst (-1), 1) := by decide +kernel
theorem dX8_train_23 : decode cX8_train 23 = .ok (.ireturn, 1) := by decide +kernel
theorem dX8_train_24 : decode cX8_train 24 = .ok (.aload_n 0, 1) := by decide +kernel
theorem dX8_train_25 : decode cX8_train 25 = .ok (.getfield 13, 3) := by decide +kernel
theorem dX8_train_28 : decode cX8_train 28 = .ok (.aload_n 0, 1) := by decide +kernel
theorem dX8_train_29 : decode cX8_train 29 = .ok (.getfield 97, 3) := by decide +kernel
theorem dX8_train_32 : decode cX8_train 32 = .ok (.iload_n 1, 1) := by decide +kernel
theorem dX8_train_33 : decode cX8_train 33 = .ok (.iastore, 1) := by decide +kernel
theorem dX8_train_34 : decode cX8_train 34 = .ok (.aload_n 0, 1) := by decide +kernel
theorem dX8_train_35 : decode cX8_train 35 = .ok (.aload_n 0, 1) := by decide +kernel
theorem dX8_train_36 : decode cX8_train 36 = .ok (.getfield 97, 3) := by decide +kernel
theorem dX8_train_39 : decode cX8_train 39 = .ok (.iconst 1, 1) := by decide +kernel
theorem dX8_train_40 : decode cX8_train 40 = .ok (.iadd, 1) := by decide +kernel
theorem dX8_train_41 : decode cX8_train 41 = .ok (.putfield 97, 3) := by decide +kernel
theorem dX8_train_44 : decode cX8_train 44 = .ok (.aload_n 0, 1) := by decide +kernel
theorem dX8_train_45 : decode cX8_train 45 = .ok (.getfield 97, 3) := by decide +kernel
theorem dX8_train_48 : decode cX8_train 48 = .ok (.iconst 1, 1) := by decide +kernel
theorem dX8_train_49 : decode cX8_train 49 = .ok (.isub, 1) := by decide +kernel
theorem dX8_train_50 : decode cX8_train 50 = .ok (.ireturn, 1) := by decide +kernel
theorem dX8_stopAt_0 : decode cX8_stopAt 0 = .ok (.iconst 0, 1) := by decide +kernel
theorem dX8_stopAt_1 : decode cX8_stopAt 1 = .ok (.istore_n 3, 1) := by decide +kernel
theorem dX8_stopAt_2 : decode cX8_stopAt 2 = .ok (.iload_n 3, 1) := by decide +kernel
theorem dX8_stopAt_3 : decode cX8_stopAt 3 = .ok (.aload_n 0, 1) := by decide +kernel
theorem dX8_stopAt_4 : decode cX8_stopAt 4 = .ok (.getfield 17, 3) := by decide +kernel
theorem dX8_stopAt_7 : decode cX8_stopAt 7 = .ok (.iload_n 1, 1) := by decide +kernel
theorem dX8_stopAt_8 : decode cX8_stopAt 8 = .ok (.iaload, 1) := by decide +kernel
theorem dX8_stopAt_9 : decode cX8_stopAt 9 = .ok (.if_icmp .ge 26, 3) := by decide +kernel
theorem dX8_stopAt_12 : decode cX8_stopAt 12 = .ok (.aload_n 0, 1) := by decide +kernel
theorem dX8_stopAt_13 : decode cX8_stopAt 13 = .ok (.getfield 20, 3) := by decide +kernel
theorem dX8_stopAt_16 : decode cX8_stopAt 16 = .ok (.bipush 7, 2) := by decide +kernel
theorem dX8_stopAt_18 : decode cX8_stopAt 18 = .ok (.iload_n 1, 1) := by decide +kernel
theorem dX8_stopAt_19 : decode cX8_stopAt 19 = .ok (.imul, 1) := by decide +kernel
theorem dX8_stopAt_20 : decode cX8_stopAt 20 = .ok (.iload_n 3, 1) := by decide +kernel
theorem dX8_stopAt_21 : decode cX8_stopAt 21 = .ok (.iadd, 1) := by decide +kernel
theorem dX8_stopAt_22 : decode cX8_stopAt 22 = .ok (.iaload, 1) := by decide +kernel
theorem dX8_stopAt_23 : decode cX8_stopAt 23 = .ok (.iload_n 2, 1) := by decide +kernel
theorem dX8_stopAt_24 : decode cX8_stopAt 24 = .ok (.if_icmp .ne 5, 3) := by decide +kernel
theorem dX8_stopAt_27 : decode cX8_stopAt 27 = .ok (.iload_n 3, 1) := by decide +kernel
theorem dX8_stopAt_28 : decode cX8_stopAt 28 = .ok (.ireturn, 1) := by decide +kernel
theorem dX8_stopAt_29 : decode cX8_stopAt 29 = .ok (.iinc 3 1, 3) := by decide +kernel
theorem dX8_stopAt_32 : decode cX8_stopAt 32 = .ok (.goto (-30), 3) := by decide +kernel
theorem dX8_stopAt_35 : decode cX8_stopAt 35 = .ok (.iconst (-1), 1) := by decide +kernel
theorem dX8_stopAt_36 : decode cX8_stopAt 36 = .ok (.ireturn, 1) := by decide +kernel
theorem dX8_stop_0 : decode cX8_stop 0 = .ok (.aload_n 0, 1) := by decide +kernel
theorem dX8_stop_1 : decode cX8_stop 1 = .ok (.iconst 0, 1) := by decide +kernel
theorem dX8_stop_2 : decode cX8_stop 2 = .ok (.putfield 94, 3) := by decide +kernel
theorem dX8_stop_5 : decode cX8_stop 5 = .ok (.aload_n 0, 1) := by decide +kernel
theorem dX8_stop_6 : decode cX8_stop 6 = .ok (.iload_n 1, 1) := by decide +kernel
theorem dX8_stop_7 : decode cX8_stop 7 = .ok (.invokevirtual 104, 3) := by decide +kernel
theorem dX8_stop_10 : decode cX8_stop 10 = .ok (.ifCond .eq 55, 3) := by decide +kernel
theorem dX8_stop_13 : decode cX8_stop 13 = .ok (.aload_n 0, 1) := by decide +kernel
theorem dX8_stop_14 : decode cX8_stop 14 = .ok (.iload_n 2, 1) := by decide +kernel
theorem dX8_stop_15 : decode cX8_stop 15 = .ok (.invokevirtual 107, 3) := by decide +kernel
theorem dX8_stop_18 : decode cX8_stop 18 = .ok (.ifCond .eq 47, 3) := by decide +kernel
theorem dX8_stop_21 : decode cX8_stop 21 = .ok (.aload_n 0, 1) := by decide +kernel
theorem dX8_stop_22 : decode cX8_stop 22 = .ok (.iload_n 3, 1) := by decide +kernel
theorem dX8_stop_23 : decode cX8_stop 23 = .ok (.invokevirtual 110, 3) := by decide +kernel
theorem dX8_stop_26 : decode cX8_stop 26 = .ok (.ifCond .eq 39, 3) := by decide +kernel
theorem dX8_stop_29 : decode cX8_stop 29 = .ok (.aload_n 0, 1) := by decide +kernel
theorem dX8_stop_30 : decode cX8_stop 30 = .ok (.iload 4, 2) := by decide +kernel
theorem dX8_stop_32 : decode cX8_stop 32 = .ok (.invokevirtual 110, 3) := by decide +kernel
theorem dX8_stop_35 : decode cX8_stop 35 = .ok (.ifCond .eq 30, 3) := by decide +kernel
theorem dX8_stop_38 : decode cX8_stop 38 = .ok (.iload 4, 2) := by decide +kernel
theorem dX8_stop_40 : decode cX8_stop 40 = .ok (.iload_n 3, 1) := by decide +kernel
theorem dX8_stop_41 : decode cX8_stop 41 = .ok (.if_icmp .lt 24, 3) := by decide +kernel
theorem dX8_stop_44 : decode cX8_stop 44 = .ok (.aload_n 0, 1) := by decide +kernel
theorem dX8_stop_45 : decode cX8_stop 45 = .ok (.getfield 17, 3) := by decide +kernel
theorem dX8_stop_48 : decode cX8_stop 48 = .ok (.iload_n 1, 1) := by decide +kernel
theorem dX8_stop_49 : decode cX8_stop 49 = .ok (.iaload, 1) := by decide +kernel
theorem dX8_stop_50 : decode cX8_stop 50 = .ok (.bipush 7, 2) := by decide +kernel
theorem dX8_stop_52 : decode cX8_stop 52 = .ok (.if_icmp .eq 13, 3) := by decide +kernel
theorem dX8_stop_55 : decode cX8_stop 55 = .ok (.aload_n 0, 1) := by decide +kernel
theorem dX8_stop_56 : decode cX8_stop 56 = .ok (.iload_n 1, 1) := by decide +kernel
theorem dX8_stop_57 : decode cX8_stop 57 = .ok (.iload_n 2, 1) := by decide +kernel
theorem dX8_stop_58 : decode cX8_stop 58 = .ok (.invokevirtual 113, 3) := by decide +kernel
theorem dX8_stop_61 : decode cX8_stop 61 = .ok (.iconst (-1), 1) := by decide +kernel
theorem dX8_stop_62 : decode cX8_stop 62 = .ok (.if_icmp .eq 5, 3) := by decide +kernel
theorem dX8_stop_65 : decode cX8_stop 65 = .ok (.iconst (-1), 1) := by decide +kernel
theorem dX8_stop_66 : decode cX8_stop 66 = .ok (.ireturn, 1) := by decide +kernel
theorem dX8_stop_67 : decode cX8_stop 67 = .ok (.bipush 7, 2) := by decide +kernel
theorem dX8_stop_69 : decode cX8_stop 69 = .ok (.iload_n 1, 1) := by decide +kernel
theorem dX8_stop_70 : decode cX8_stop 70 = .ok (.imul, 1) := by decide +kernel
theorem dX8_stop_71 : decode cX8_stop 71 = .ok (.aload_n 0, 1) := by decide +kernel
theorem dX8_stop_72 : decode cX8_stop 72 = .ok (.getfield 17, 3) := by decide +kernel
theorem dX8_stop_75 : decode cX8_stop 75 = .ok (.iload_n 1, 1) := by decide +kernel
theorem dX8_stop_76 : decode cX8_stop 76 = .ok (.iaload, 1) := by decide +kernel
theorem dX8_stop_77 : decode cX8_stop 77 = .ok (.iadd, 1) := by decide +kernel
theorem dX8_stop_78 : decode cX8_stop 78 = .ok (.istore 5, 2) := by decide +kernel
theorem dX8_stop_80 : decode cX8_stop 80 = .ok (.aload_n 0, 1) := by decide +kernel
theorem dX8_stop_81 : decode cX8_stop 81 = .ok (.getfield 17, 3) := by decide +kernel
theorem dX8_stop_84 : decode cX8_stop 84 = .ok (.iload_n 1, 1) := by decide +kernel
theorem dX8_stop_85 : decode cX8_stop 85 = .ok (.iaload, 1) := by decide +kernel
theorem dX8_stop_86 : decode cX8_stop 86 = .ok (.ifCond .le 18, 3) := by decide +kernel
theorem dX8_stop_89 : decode cX8_stop 89 = .ok (.iload_n 3, 1) := by decide +kernel
theorem dX8_stop_90 : decode cX8_stop 90 = .ok (.aload_n 0, 1) := by decide +kernel
theorem dX8_stop_91 : decode cX8_stop 91 = .ok (.getfield 26, 3) := by decide +kernel
theorem dX8_stop_94 : decode cX8_stop 94 = .ok (.iload 5, 2) := by decide +kernel
theorem dX8_stop_96 : decode cX8_stop 96 = .ok (.iconst 1, 1) := by decide +kernel
theorem dX8_stop_97 : decode cX8_stop 97 = .ok (.isub, 1) := by decide +kernel
theorem dX8_stop_98 : decode cX8_stop 98 = .ok (.iaload, 1) := by decide +kernel
theorem dX8_stop_99 : decode cX8_stop 99 = .ok (.if_icmp .gt 5, 3) := by decide +kernel
theorem dX8_stop_102 : decode cX8_stop 102 = .ok (.iconst (-1), 1) := by decide +kernel
theorem dX8_stop_103 : decode cX8_stop 103 = .ok (.ireturn, 1) := by decide +kernel
theorem dX8_stop_104 : decode cX8_stop 104 = .ok (.aload_n 0, 1) := by decide +kernel
theorem dX8_stop_105 : decode cX8_stop 105 = .ok (.getfield 20, 3) := by decide +kernel
theorem dX8_stop_108 : decode cX8_stop 108 = .ok (.iload 5, 2) := by decide +kernel
theorem dX8_stop_110 : decode cX8_stop 110 = .ok (.iload_n 2, 1) := by decide +kernel
theorem dX8_stop_111 : decode cX8_stop 111 = .ok (.iastore, 1) := by decide +kernel
theorem dX8_stop_112 : decode cX8_stop 112 = .ok (.aload_n 0, 1) := by decide +kernel
theorem dX8_stop_113 : decode cX8_stop 113 = .ok (.getfield 23, 3) := by decide +kernel
theorem dX8_stop_116 : decode cX8_stop 116 = .ok (.iload 5, 2) := by decide +kernel
theorem dX8_stop_118 : decode cX8_stop 118 = .ok (.iload_n 3, 1) := by decide +kernel
theorem dX8_stop_119 : decode cX8_stop 119 = .ok (.iastore, 1) := by decide +kernel
theorem dX8_stop_120 : decode cX8_stop 120 = .ok (.aload_n 0, 1) := by decide +kernel
theorem dX8_stop_121 : decode cX8_stop 121 = .ok (.getfield 26, 3) := by decide +kernel
theorem dX8_stop_124 : decode cX8_stop 124 = .ok (.iload 5, 2) := by decide +kernel
theorem dX8_stop_126 : decode cX8_stop 126 = .ok (.iload 4, 2) := by decide +kernel
theorem dX8_stop_128 : decode cX8_stop 128 = .ok (.iastore, 1) := by decide +kernel
theorem dX8_stop_129 : decode cX8_stop 129 = .ok (.aload_n 0, 1) := by decide +kernel
theorem dX8_stop_130 : decode cX8_stop 130 = .ok (.getfield 17, 3) := by decide +kernel
theorem dX8_stop_133 : decode cX8_stop 133 = .ok (.iload_n 1, 1) := by decide +kernel
theorem dX8_stop_134 : decode cX8_stop 134 = .ok (.aload_n 0, 1) := by decide +kernel
theorem dX8_stop_135 : decode cX8_stop 135 = .ok (.getfield 17, 3) := by decide +kernel
theorem dX8_stop_138 : decode cX8_stop 138 = .ok (.iload_n 1, 1) := by decide +kernel
theorem dX8_stop_139 : decode cX8_stop 139 = .ok (.iaload, 1) := by decide +kernel
theorem dX8_stop_140 : decode cX8_stop 140 = .ok (.iconst 1, 1) := by decide +kernel
theorem dX8_stop_141 : decode cX8_stop 141 = .ok (.iadd, 1) := by decide +kernel
theorem dX8_stop_142 : decode cX8_stop 142 = .ok (.iastore, 1) := by decide +kernel
theorem dX8_stop_143 : decode cX8_stop 143 = .ok (.aload_n 0, 1) := by decide +kernel
theorem dX8_stop_144 : decode cX8_stop 144 = .ok (.getfield 17, 3) := by decide +kernel
theorem dX8_stop_147 : decode cX8_stop 147 = .ok (.iload_n 1, 1) := by decide +kernel
theorem dX8_stop_148 : decode cX8_stop 148 = .ok (.iaload, 1) := by decide +kernel
theorem dX8_stop_149 : decode cX8_stop 149 = .ok (.ireturn, 1) := by decide +kernel
theorem dX8_days_0 : decode cX8_days 0 = .ok (.aload_n 0, 1) := by decide +kernel
theorem dX8_days_1 : decode cX8_days 1 = .ok (.iconst 0, 1) := by decide +kernel
theorem dX8_days_2 : decode cX8_days 2 = .ok (.putfield 94, 3) := by decide +kernel
theorem dX8_days_5 : decode cX8_days 5 = .ok (.aload_n 0, 1) := by decide +kernel
theorem dX8_days_6 : decode cX8_days 6 = .ok (.iload_n 1, 1) := by decide +kernel
theorem dX8_days_7 : decode cX8_days 7 = .ok (.invokevirtual 104, 3) := by decide +kernel
theorem dX8_days_10 : decode cX8_days 10 = .ok (.ifCond .eq 11, 3) := by decide +kernel
theorem dX8_days_13 : decode cX8_days 13 = .ok (.aload_n 0, 1) := by decide +kernel
theorem dX8_days_14 : decode cX8_days 14 = .ok (.iload_n 2, 1) := by decide +kernel
theorem dX8_days_15 : decode cX8_days 15 = .ok (.invokevirtual 100, 3) := by decide +kernel
theorem dX8_days_18 : decode cX8_days 18 = .ok (.ifCond .ne 5, 3) := by decide +kernel
theorem dX8_days_21 : decode cX8_days 21 = .ok (.iconst 0, 1) := by decide +kernel
theorem dX8_days_22 : decode cX8_days 22 = .ok (.ireturn, 1) := by decide +kernel
theorem dX8_days_23 : decode cX8_days 23 = .ok (.aload_n 0, 1) := by decide +kernel
theorem dX8_days_24 : decode cX8_days 24 = .ok (.getfield 13, 3) := by decide +kernel
theorem dX8_days_27 : decode cX8_days 27 = .ok (.iload_n 1, 1) := by decide +kernel
theorem dX8_days_28 : decode cX8_days 28 = .ok (.iload_n 2, 1) := by decide +kernel
theorem dX8_days_29 : decode cX8_days 29 = .ok (.iastore, 1) := by decide +kernel
theorem dX8_days_30 : decode cX8_days 30 = .ok (.iconst 1, 1) := by decide +kernel
theorem dX8_days_31 : decode cX8_days 31 = .ok (.ireturn, 1) := by decide +kernel
theorem dX8_cut_0 : decode cX8_cut 0 = .ok (.aload_n 0, 1) := by decide +kernel
theorem dX8_cut_1 : decode cX8_cut 1 = .ok (.iconst 0, 1) := by decide +kernel
theorem dX8_cut_2 : decode cX8_cut 2 = .ok (.putfield 94, 3) := by decide +kernel
theorem dX8_cut_5 : decode cX8_cut 5 = .ok (.aload_n 0, 1) := by decide +kernel
theorem dX8_cut_6 : decode cX8_cut 6 = .ok (.iload_n 1, 1) := by decide +kernel
theorem dX8_cut_7 : decode cX8_cut 7 = .ok (.invokevirtual 104, 3) := by decide +kernel
theorem dX8_cut_10 : decode cX8_cut 10 = .ok (.ifCond .eq 12, 3) := by decide +kernel
theorem dX8_cut_13 : decode cX8_cut 13 = .ok (.aload_n 0, 1) := by decide +kernel
theorem dX8_cut_14 : decode cX8_cut 14 = .ok (.getfield 17, 3) := by decide +kernel
theorem dX8_cut_17 : decode cX8_cut 17 = .ok (.iload_n 1, 1) := by decide +kernel
theorem dX8_cut_18 : decode cX8_cut 18 = .ok (.iaload, 1) := by decide +kernel
theorem dX8_cut_19 : decode cX8_cut 19 = .ok (.ifCond .ne 5, 3) := by decide +kernel
theorem dX8_cut_22 : decode cX8_cut 22 = .ok (.iconst 0, 1) := by decide +kernel
theorem dX8_cut_23 : decode cX8_cut 23 = .ok (.ireturn, 1) := by decide +kernel
theorem dX8_cut_24 : decode cX8_cut 24 = .ok (.aload_n 0, 1) := by decide +kernel
theorem dX8_cut_25 : decode cX8_cut 25 = .ok (.getfield 17, 3) := by decide +kernel
theorem dX8_cut_28 : decode cX8_cut 28 = .ok (.iload_n 1, 1) := by decide +kernel
theorem dX8_cut_29 : decode cX8_cut 29 = .ok (.aload_n 0, 1) := by decide +kernel
theorem dX8_cut_30 : decode cX8_cut 30 = .ok (.getfield 17, 3) := by decide +kernel
theorem dX8_cut_33 : decode cX8_cut 33 = .ok (.iload_n 1, 1) := by decide +kernel
theorem dX8_cut_34 : decode cX8_cut 34 = .ok (.iaload, 1) := by decide +kernel
theorem dX8_cut_35 : decode cX8_cut 35 = .ok (.iconst 1, 1) := by decide +kernel
theorem dX8_cut_36 : decode cX8_cut 36 = .ok (.isub, 1) := by decide +kernel
theorem dX8_cut_37 : decode cX8_cut 37 = .ok (.iastore, 1) := by decide +kernel
theorem dX8_cut_38 : decode cX8_cut 38 = .ok (.iconst 1, 1) := by decide +kernel
theorem dX8_cut_39 : decode cX8_cut 39 = .ok (.ireturn, 1) := by decide +kernel
theorem dX8_shift_0 : decode cX8_shift 0 = .ok (.aload_n 0, 1) := by decide +kernel
theorem dX8_shift_1 : decode cX8_shift 1 = .ok (.iconst 0, 1) := by decide +kernel
theorem dX8_shift_2 : decode cX8_shift 2 = .ok (.putfield 94, 3) := by decide +kernel
theorem dX8_shift_5 : decode cX8_shift 5 = .ok (.aload_n 0, 1) := by decide +kernel
theorem dX8_shift_6 : decode cX8_shift 6 = .ok (.iload_n 1, 1) := by decide +kernel
theorem dX8_shift_7 : decode cX8_shift 7 = .ok (.invokevirtual 104, 3) := by decide +kernel
theorem dX8_shift_10 : decode cX8_shift 10 = .ok (.ifCond .ne 5, 3) := by decide +kernel
theorem dX8_shift_13 : decode cX8_shift 13 = .ok (.iconst 0, 1) := by decide +kernel
theorem dX8_shift_14 : decode cX8_shift 14 = .ok (.ireturn, 1) := by decide +kernel
theorem dX8_shift_15 : decode cX8_shift 15 = .ok (.aload_n 0, 1) := by decide +kernel
theorem dX8_shift_16 : decode cX8_shift 16 = .ok (.getfield 17, 3) := by decide +kernel
theorem dX8_shift_19 : decode cX8_shift 19 = .ok (.iload_n 1, 1) := by decide +kernel
theorem dX8_shift_20 : decode cX8_shift 20 = .ok (.iaload, 1) := by decide +kernel
theorem dX8_shift_21 : decode cX8_shift 21 = .ok (.ifCond .ne 5, 3) := by decide +kernel
theorem dX8_shift_24 : decode cX8_shift 24 = .ok (.iconst 1, 1) := by decide +kernel
theorem dX8_shift_25 : decode cX8_shift 25 = .ok (.ireturn, 1) := by decide +kernel
theorem dX8_shift_26 : decode cX8_shift 26 = .ok (.iload_n 2, 1) := by decide +kernel
theorem dX8_shift_27 : decode cX8_shift 27 = .ok (.sipush (-1440), 3) := by decide +kernel
theorem dX8_shift_30 : decode cX8_shift 30 = .ok (.if_icmp .lt 10, 3) := by decide +kernel
theorem dX8_shift_33 : decode cX8_shift 33 = .ok (.iload_n 2, 1) := by decide +kernel
theorem dX8_shift_34 : decode cX8_shift 34 = .ok (.sipush 1440, 3) := by decide +kernel
theorem dX8_shift_37 : decode cX8_shift 37 = .ok (.if_icmp .le 5, 3) := by decide +kernel
theorem dX8_shift_40 : decode cX8_shift 40 = .ok (.iconst 0, 1) := by decide +kernel
theorem dX8_shift_41 : decode cX8_shift 41 = .ok (.ireturn, 1) := by decide +kernel
theorem dX8_shift_42 : decode cX8_shift 42 = .ok (.iconst 0, 1) := by decide +kernel
theorem dX8_shift_43 : decode cX8_shift 43 = .ok (.istore_n 3, 1) := by decide +kernel
theorem dX8_shift_44 : decode cX8_shift 44 = .ok (.iload_n 3, 1) := by decide +kernel
theorem dX8_shift_45 : decode cX8_shift 45 = .ok (.aload_n 0, 1) := by decide +kernel
theorem dX8_shift_46 : decode cX8_shift 46 = .ok (.getfield 17, 3) := by decide +kernel
theorem dX8_shift_49 : decode cX8_shift 49 = .ok (.iload_n 1, 1) := by decide +kernel
theorem dX8_shift_50 : decode cX8_shift 50 = .ok (.iaload, 1) := by decide +kernel
theorem dX8_shift_51 : decode cX8_shift 51 = .ok (.if_icmp .ge 51, 3) := by decide +kernel
theorem dX8_shift_54 : decode cX8_shift 54 = .ok (.aload_n 0, 1) := by decide +kernel
theorem dX8_shift_55 : decode cX8_shift 55 = .ok (.aload_n 0, 1) := by decide +kernel
theorem dX8_shift_56 : decode cX8_shift 56 = .ok (.getfield 23, 3) := by decide +kernel
theorem dX8_shift_59 : decode cX8_shift 59 = .ok (.bipush 7, 2) := by decide +kernel
theorem dX8_shift_61 : decode cX8_shift 61 = .ok (.iload_n 1, 1) := by decide +kernel
theorem dX8_shift_62 : decode cX8_shift 62 = .ok (.imul, 1) := by decide +kernel
theorem dX8_shift_63 : decode cX8_shift 63 = .ok (.iload_n 3, 1) := by decide +kernel
theorem dX8_shift_64 : decode cX8_shift 64 = .ok (.iadd, 1) := by decide +kernel
theorem dX8_shift_65 : decode cX8_shift 65 = .ok (.iaload, 1) := by decide +kernel
theorem dX8_shift_66 : decode cX8_shift 66 = .ok (.iload_n 2, 1) := by decide +kernel
theorem dX8_shift_67 : decode cX8_shift 67 = .ok (.iadd, 1) := by decide +kernel
theorem dX8_shift_68 : decode cX8_shift 68 = .ok (.invokevirtual 110, 3) := by decide +kernel
theorem dX8_shift_71 : decode cX8_shift 71 = .ok (.ifCond .eq 23, 3) := by decide +kernel
theorem dX8_shift_74 : decode cX8_shift 74 = .ok (.aload_n 0, 1) := by decide +kernel
theorem dX8_shift_75 : decode cX8_shift 75 = .ok (.aload_n 0, 1) := by decide +kernel
theorem dX8_shift_76 : decode cX8_shift 76 = .ok (.getfield 26, 3) := by decide +kernel
theorem dX8_shift_79 : decode cX8_shift 79 = .ok (.bipush 7, 2) := by decide +kernel
theorem dX8_shift_81 : decode cX8_shift 81 = .ok (.iload_n 1, 1) := by decide +kernel
theorem dX8_shift_82 : decode cX8_shift 82 = .ok (.imul, 1) := by decide +kernel
theorem dX8_shift_83 : decode cX8_shift 83 = .ok (.iload_n 3, 1) := by decide +kernel
theorem dX8_shift_84 : decode cX8_shift 84 = .ok (.iadd, 1) := by decide +kernel
theorem dX8_shift_85 : decode cX8_shift 85 = .ok (.iaload, 1) := by decide +kernel
theorem dX8_shift_86 : decode cX8_shift 86 = .ok (.iload_n 2, 1) := by decide +kernel
theorem dX8_shift_87 : decode cX8_shift 87 = .ok (.iadd, 1) := by decide +kernel
theorem dX8_shift_88 : decode cX8_shift 88 = .ok (.invokevirtual 110, 3) := by decide +kernel
theorem dX8_shift_91 : decode cX8_shift 91 = .ok (.ifCond .ne 5, 3) := by decide +kernel
theorem dX8_shift_94 : decode cX8_shift 94 = .ok (.iconst 0, 1) := by decide +kernel
theorem dX8_shift_95 : decode cX8_shift 95 = .ok (.ireturn, 1) := by decide +kernel
theorem dX8_shift_96 : decode cX8_shift 96 = .ok (.iinc 3 1, 3) := by decide +kernel
theorem dX8_shift_99 : decode cX8_shift 99 = .ok (.goto (-55), 3) := by decide +kernel
theorem dX8_shift_102 : decode cX8_shift 102 = .ok (.iconst 0, 1) := by decide +kernel
theorem dX8_shift_103 : decode cX8_shift 103 = .ok (.istore_n 3, 1) := by decide +kernel
theorem dX8_shift_104 : decode cX8_shift 104 = .ok (.iload_n 3, 1) := by decide +kernel
theorem dX8_shift_105 : decode cX8_shift 105 = .ok (.aload_n 0, 1) := by decide +kernel
theorem dX8_shift_106 : decode cX8_shift 106 = .ok (.getfield 17, 3) := by decide +kernel
theorem dX8_shift_109 : decode cX8_shift 109 = .ok (.iload_n 1, 1) := by decide +kernel
theorem dX8_shift_110 : decode cX8_shift 110 = .ok (.iaload, 1) := by decide +kernel
theorem dX8_shift_111 : decode cX8_shift 111 = .ok (.if_icmp .ge 57, 3) := by decide +kernel
theorem dX8_shift_114 : decode cX8_shift 114 = .ok (.aload_n 0, 1) := by decide +kernel
theorem dX8_shift_115 : decode cX8_shift 115 = .ok (.getfield 23, 3) := by decide +kernel
theorem dX8_shift_118 : decode cX8_shift 118 = .ok (.bipush 7, 2) := by decide +kernel
theorem dX8_shift_120 : decode cX8_shift 120 = .ok (.iload_n 1, 1) := by decide +kernel
theorem dX8_shift_121 : decode cX8_shift 121 = .ok (.imul, 1) := by decide +kernel
theorem dX8_shift_122 : decode cX8_shift 122 = .ok (.iload_n 3, 1) := by decide +kernel
theorem dX8_shift_123 : decode cX8_shift 123 = .ok (.iadd, 1) := by decide +kernel
theorem dX8_shift_124 : decode cX8_shift 124 = .ok (.aload_n 0, 1) := by decide +kernel
theorem dX8_shift_125 : decode cX8_shift 125 = .ok (.getfield 23, 3) := by decide +kernel
theorem dX8_shift_128 : decode cX8_shift 128 = .ok (.bipush 7, 2) := by decide +kernel
theorem dX8_shift_130 : decode cX8_shift 130 = .ok (.iload_n 1, 1) := by decide +kernel
theorem dX8_shift_131 : decode cX8_shift 131 = .ok (.imul, 1) := by decide +kernel
theorem dX8_shift_132 : decode cX8_shift 132 = .ok (.iload_n 3, 1) := by decide +kernel
theorem dX8_shift_133 : decode cX8_shift 133 = .ok (.iadd, 1) := by decide +kernel
theorem dX8_shift_134 : decode cX8_shift 134 = .ok (.iaload, 1) := by decide +kernel
theorem dX8_shift_135 : decode cX8_shift 135 = .ok (.iload_n 2, 1) := by decide +kernel
theorem dX8_shift_136 : decode cX8_shift 136 = .ok (.iadd, 1) := by decide +kernel
theorem dX8_shift_137 : decode cX8_shift 137 = .ok (.iastore, 1) := by decide +kernel
theorem dX8_shift_138 : decode cX8_shift 138 = .ok (.aload_n 0, 1) := by decide +kernel
theorem dX8_shift_139 : decode cX8_shift 139 = .ok (.getfield 26, 3) := by decide +kernel
theorem dX8_shift_142 : decode cX8_shift 142 = .ok (.bipush 7, 2) := by decide +kernel
theorem dX8_shift_144 : decode cX8_shift 144 = .ok (.iload_n 1, 1) := by decide +kernel
theorem dX8_shift_145 : decode cX8_shift 145 = .ok (.imul, 1) := by decide +kernel
theorem dX8_shift_146 : decode cX8_shift 146 = .ok (.iload_n 3, 1) := by decide +kernel
theorem dX8_shift_147 : decode cX8_shift 147 = .ok (.iadd, 1) := by decide +kernel
theorem dX8_shift_148 : decode cX8_shift 148 = .ok (.aload_n 0, 1) := by decide +kernel
theorem dX8_shift_149 : decode cX8_shift 149 = .ok (.getfield 26, 3) := by decide +kernel
theorem dX8_shift_152 : decode cX8_shift 152 = .ok (.bipush 7, 2) := by decide +kernel
theorem dX8_shift_154 : decode cX8_shift 154 = .ok (.iload_n 1, 1) := by decide +kernel
theorem dX8_shift_155 : decode cX8_shift 155 = .ok (.imul, 1) := by decide +kernel
theorem dX8_shift_156 : decode cX8_shift 156 = .ok (.iload_n 3, 1) := by decide +kernel
theorem dX8_shift_157 : decode cX8_shift 157 = .ok (.iadd, 1) := by decide +kernel
theorem dX8_shift_158 : decode cX8_shift 158 = .ok (.iaload, 1) := by decide +kernel
theorem dX8_shift_159 : decode cX8_shift 159 = .ok (.iload_n 2, 1) := by decide +kernel
theorem dX8_shift_160 : decode cX8_shift 160 = .ok (.iadd, 1) := by decide +kernel
theorem dX8_shift_161 : decode cX8_shift 161 = .ok (.iastore, 1) := by decide +kernel
theorem dX8_shift_162 : decode cX8_shift 162 = .ok (.iinc 3 1, 3) := by decide +kernel
theorem dX8_shift_165 : decode cX8_shift 165 = .ok (.goto (-61), 3) := by decide +kernel
theorem dX8_shift_168 : decode cX8_shift 168 = .ok (.iconst 1, 1) := by decide +kernel
theorem dX8_shift_169 : decode cX8_shift 169 = .ok (.ireturn, 1) := by decide +kernel
theorem dX8_sign_0 : decode cX8_sign 0 = .ok (.aload_n 0, 1) := by decide +kernel
theorem dX8_sign_1 : decode cX8_sign 1 = .ok (.iconst 0, 1) := by decide +kernel
theorem dX8_sign_2 : decode cX8_sign 2 = .ok (.putfield 94, 3) := by decide +kernel
theorem dX8_sign_5 : decode cX8_sign 5 = .ok (.iload_n 1, 1) := by decide +kernel
theorem dX8_sign_6 : decode cX8_sign 6 = .ok (.bipush 7, 2) := by decide +kernel
theorem dX8_sign_8 : decode cX8_sign 8 = .ok (.if_icmp .lt 19, 3) := by decide +kernel
theorem dX8_sign_11 : decode cX8_sign 11 = .ok (.iload_n 1, 1) := by decide +kernel
theorem dX8_sign_12 : decode cX8_sign 12 = .ok (.bipush 12, 2) := by decide +kernel
theorem dX8_sign_14 : decode cX8_sign 14 = .ok (.if_icmp .gt 13, 3) := by decide +kernel
theorem dX8_sign_17 : decode cX8_sign 17 = .ok (.iload_n 2, 1) := by decide +kernel
theorem dX8_sign_18 : decode cX8_sign 18 = .ok (.ifCond .lt 9, 3) := by decide +kernel
theorem dX8_sign_21 : decode cX8_sign 21 = .ok (.iload_n 2, 1) := by decide +kernel
theorem dX8_sign_22 : decode cX8_sign 22 = .ok (.bipush 127, 2) := by decide +kernel
theorem dX8_sign_24 : decode cX8_sign 24 = .ok (.if_icmp .le 5, 3) := by decide +kernel
theorem dX8_sign_27 : decode cX8_sign 27 = .ok (.iconst 0, 1) := by decide +kernel
theorem dX8_sign_28 : decode cX8_sign 28 = .ok (.ireturn, 1) := by decide +kernel
theorem dX8_sign_29 : decode cX8_sign 29 = .ok (.aload_n 0, 1) := by decide +kernel
theorem dX8_sign_30 : decode cX8_sign 30 = .ok (.getfield 29, 3) := by decide +kernel
theorem dX8_sign_33 : decode cX8_sign 33 = .ok (.iload_n 1, 1) := by decide +kernel
theorem dX8_sign_34 : decode cX8_sign 34 = .ok (.iload_n 2, 1) := by decide +kernel
theorem dX8_sign_35 : decode cX8_sign 35 = .ok (.iastore, 1) := by decide +kernel
theorem dX8_sign_36 : decode cX8_sign 36 = .ok (.iconst 1, 1) := by decide +kernel
theorem dX8_sign_37 : decode cX8_sign 37 = .ok (.ireturn, 1) := by decide +kernel
theorem dX8_change_0 : decode cX8_change 0 = .ok (.aload_n 0, 1) := by decide +kernel
theorem dX8_change_1 : decode cX8_change 1 = .ok (.iconst 0, 1) := by decide +kernel
theorem dX8_change_2 : decode cX8_change 2 = .ok (.putfield 94, 3) := by decide +kernel
theorem dX8_change_5 : decode cX8_change 5 = .ok (.iload_n 1, 1) := by decide +kernel
theorem dX8_change_6 : decode cX8_change 6 = .ok (.ifCond .lt 9, 3) := by decide +kernel
theorem dX8_change_9 : decode cX8_change 9 = .ok (.iload_n 1, 1) := by decide +kernel
theorem dX8_change_10 : decode cX8_change 10 = .ok (.bipush 60, 2) := by decide +kernel
theorem dX8_change_12 : decode cX8_change 12 = .ok (.if_icmp .le 5, 3) := by decide +kernel
theorem dX8_change_15 : decode cX8_change 15 = .ok (.iconst 0, 1) := by decide +kernel
theorem dX8_change_16 : decode cX8_change 16 = .ok (.ireturn, 1) := by decide +kernel
theorem dX8_change_17 : decode cX8_change 17 = .ok (.aload_n 0, 1) := by decide +kernel
theorem dX8_change_18 : decode cX8_change 18 = .ok (.iload_n 1, 1) := by decide +kernel
theorem dX8_change_19 : decode cX8_change 19 = .ok (.putfield 7, 3) := by decide +kernel
theorem dX8_change_22 : decode cX8_change 22 = .ok (.iconst 1, 1) := by decide +kernel
theorem dX8_change_23 : decode cX8_change 23 = .ok (.ireturn, 1) := by decide +kernel
theorem dX8_about_0 : decode cX8_about 0 = .ok (.aload_n 0, 1) := by decide +kernel
theorem dX8_about_1 : decode cX8_about 1 = .ok (.iconst 0, 1) := by decide +kernel
theorem dX8_about_2 : decode cX8_about 2 = .ok (.putfield 94, 3) := by decide +kernel
theorem dX8_about_5 : decode cX8_about 5 = .ok (.iload_n 1, 1) := by decide +kernel
theorem dX8_about_6 : decode cX8_about 6 = .ok (.ifCond .ne 8, 3) := by decide +kernel
theorem dX8_about_9 : decode cX8_about 9 = .ok (.aload_n 0, 1) := by decide +kernel
theorem dX8_about_10 : decode cX8_about 10 = .ok (.getfield 97, 3) := by decide +kernel
theorem dX8_about_13 : decode cX8_about 13 = .ok (.ireturn, 1) := by decide +kernel
theorem dX8_about_14 : decode cX8_about 14 = .ok (.iload_n 1, 1) := by decide +kernel
theorem dX8_about_15 : decode cX8_about 15 = .ok (.iconst 1, 1) := by decide +kernel
theorem dX8_about_16 : decode cX8_about 16 = .ok (.if_icmp .ne 8, 3) := by decide +kernel
theorem dX8_about_19 : decode cX8_about 19 = .ok (.aload_n 0, 1) := by decide +kernel
theorem dX8_about_20 : decode cX8_about 20 = .ok (.getfield 7, 3) := by decide +kernel
theorem dX8_about_23 : decode cX8_about 23 = .ok (.ireturn, 1) := by decide +kernel
theorem dX8_about_24 : decode cX8_about 24 = .ok (.iload_n 1, 1) := by decide +kernel
theorem dX8_about_25 : decode cX8_about 25 = .ok (.iconst 2, 1) := by decide +kernel
theorem dX8_about_26 : decode cX8_about 26 = .ok (.if_icmp .ne 8, 3) := by decide +kernel
theorem dX8_about_29 : decode cX8_about 29 = .ok (.aload_n 0, 1) := by decide +kernel
theorem dX8_about_30 : decode cX8_about 30 = .ok (.getfield 117, 3) := by decide +kernel
theorem dX8_about_33 : decode cX8_about 33 = .ok (.ireturn, 1) := by decide +kernel
theorem dX8_about_34 : decode cX8_about 34 = .ok (.iload_n 1, 1) := by decide +kernel
theorem dX8_about_35 : decode cX8_about 35 = .ok (.iconst 3, 1) := by decide +kernel
theorem dX8_about_36 : decode cX8_about 36 = .ok (.if_icmp .ne 8, 3) := by decide +kernel
theorem dX8_about_39 : decode cX8_about 39 = .ok (.aload_n 0, 1) := by decide +kernel
theorem dX8_about_40 : decode cX8_about 40 = .ok (.getfield 120, 3) := by decide +kernel
theorem dX8_about_43 : decode cX8_about 43 = .ok (.ireturn, 1) := by decide +kernel
theorem dX8_about_44 : decode cX8_about 44 = .ok (.iload_n 1, 1) := by decide +kernel
theorem dX8_about_45 : decode cX8_about 45 = .ok (.bipush 100, 2) := by decide +kernel
theorem dX8_about_47 : decode cX8_about 47 = .ok (.if_icmp .lt 16, 3) := by decide +kernel
theorem dX8_about_50 : decode cX8_about 50 = .ok (.aload_n 0, 1) := by decide +kernel
theorem dX8_about_51 : decode cX8_about 51 = .ok (.iload_n 1, 1) := by decide +kernel
theorem dX8_about_52 : decode cX8_about 52 = .ok (.bipush 100, 2) := by decide +kernel
theorem dX8_about_54 : decode cX8_about 54 = .ok (.idiv, 1) := by decide +kernel
theorem dX8_about_55 : decode cX8_about 55 = .ok (.iconst 1, 1) := by decide +kernel
theorem dX8_about_56 : decode cX8_about 56 = .ok (.isub, 1) := by decide +kernel
theorem dX8_about_57 : decode cX8_about 57 = .ok (.invokevirtual 104, 3) := by decide +kernel
theorem dX8_about_60 : decode cX8_about 60 = .ok (.ifCond .ne 5, 3) := by decide +kernel
theorem dX8_about_63 : decode cX8_about 63 = .ok (.iconst (-1), 1) := by decide +kernel
theorem dX8_about_64 : decode cX8_about 64 = .ok (.ireturn, 1) := by decide +kernel
theorem dX8_about_65 : decode cX8_about 65 = .ok (.iload_n 1, 1) := by decide +kernel
theorem dX8_about_66 : decode cX8_about 66 = .ok (.bipush 100, 2) := by decide +kernel
theorem dX8_about_68 : decode cX8_about 68 = .ok (.idiv, 1) := by decide +kernel
theorem dX8_about_69 : decode cX8_about 69 = .ok (.iconst 1, 1) := by decide +kernel
theorem dX8_about_70 : decode cX8_about 70 = .ok (.isub, 1) := by decide +kernel
theorem dX8_about_71 : decode cX8_about 71 = .ok (.istore_n 2, 1) := by decide +kernel
theorem dX8_about_72 : decode cX8_about 72 = .ok (.iload_n 1, 1) := by decide +kernel
theorem dX8_about_73 : decode cX8_about 73 = .ok (.bipush 100, 2) := by decide +kernel
theorem dX8_about_75 : decode cX8_about 75 = .ok (.irem, 1) := by decide +kernel
theorem dX8_about_76 : decode cX8_about 76 = .ok (.istore_n 3, 1) := by decide +kernel
theorem dX8_about_77 : decode cX8_about 77 = .ok (.iload_n 3, 1) := by decide +kernel
theorem dX8_about_78 : decode cX8_about 78 = .ok (.ifCond .ne 10, 3) := by decide +kernel
theorem dX8_about_81 : decode cX8_about 81 = .ok (.aload_n 0, 1) := by decide +kernel
theorem dX8_about_82 : decode cX8_about 82 = .ok (.getfield 13, 3) := by decide +kernel
theorem dX8_about_85 : decode cX8_about 85 = .ok (.iload_n 2, 1) := by decide +kernel
theorem dX8_about_86 : decode cX8_about 86 = .ok (.iaload, 1) := by decide +kernel
theorem dX8_about_87 : decode cX8_about 87 = .ok (.ireturn, 1) := by decide +kernel
theorem dX8_about_88 : decode cX8_about 88 = .ok (.iload_n 3, 1) := by decide +kernel
theorem dX8_about_89 : decode cX8_about 89 = .ok (.iconst 1, 1) := by decide +kernel
theorem dX8_about_90 : decode cX8_about 90 = .ok (.if_icmp .ne 10, 3) := by decide +kernel
theorem dX8_about_93 : decode cX8_about 93 = .ok (.aload_n 0, 1) := by decide +kernel
theorem dX8_about_94 : decode cX8_about 94 = .ok (.getfield 17, 3) := by decide +kernel
theorem dX8_about_97 : decode cX8_about 97 = .ok (.iload_n 2, 1) := by decide +kernel
theorem dX8_about_98 : decode cX8_about 98 = .ok (.iaload, 1) := by decide +kernel
theorem dX8_about_99 : decode cX8_about 99 = .ok (.ireturn, 1) := by decide +kernel
theorem dX8_about_100 : decode cX8_about 100 = .ok (.iload_n 3, 1) := by decide +kernel
theorem dX8_about_101 : decode cX8_about 101 = .ok (.bipush 10, 2) := by decide +kernel
theorem dX8_about_103 : decode cX8_about 103 = .ok (.idiv, 1) := by decide +kernel
theorem dX8_about_104 : decode cX8_about 104 = .ok (.iconst 1, 1) := by decide +kernel
theorem dX8_about_105 : decode cX8_about 105 = .ok (.isub, 1) := by decide +kernel
theorem dX8_about_106 : decode cX8_about 106 = .ok (.istore 4, 2) := by decide +kernel
theorem dX8_about_108 : decode cX8_about 108 = .ok (.iload_n 3, 1) := by decide +kernel
theorem dX8_about_109 : decode cX8_about 109 = .ok (.bipush 10, 2) := by decide +kernel
theorem dX8_about_111 : decode cX8_about 111 = .ok (.if_icmp .lt 22, 3) := by decide +kernel
theorem dX8_about_114 : decode cX8_about 114 = .ok (.iload 4, 2) := by decide +kernel
theorem dX8_about_116 : decode cX8_about 116 = .ok (.aload_n 0, 1) := by decide +kernel
theorem dX8_about_117 : decode cX8_about 117 = .ok (.getfield 17, 3) := by decide +kernel
theorem dX8_about_120 : decode cX8_about 120 = .ok (.iload_n 2, 1) := by decide +kernel
theorem dX8_about_121 : decode cX8_about 121 = .ok (.iaload, 1) := by decide +kernel
theorem dX8_about_122 : decode cX8_about 122 = .ok (.if_icmp .ge 11, 3) := by decide +kernel
theorem dX8_about_125 : decode cX8_about 125 = .ok (.iload_n 3, 1) := by decide +kernel
theorem dX8_about_126 : decode cX8_about 126 = .ok (.bipush 10, 2) := by decide +kernel
theorem dX8_about_128 : decode cX8_about 128 = .ok (.irem, 1) := by decide +kernel
theorem dX8_about_129 : decode cX8_about 129 = .ok (.iconst 2, 1) := by decide +kernel
theorem dX8_about_130 : decode cX8_about 130 = .ok (.if_icmp .le 5, 3) := by decide +kernel
theorem dX8_about_133 : decode cX8_about 133 = .ok (.iconst (-1), 1) := by decide +kernel
theorem dX8_about_134 : decode cX8_about 134 = .ok (.ireturn, 1) := by decide +kernel
theorem dX8_about_135 : decode cX8_about 135 = .ok (.iload_n 3, 1) := by decide +kernel
theorem dX8_about_136 : decode cX8_about 136 = .ok (.bipush 10, 2) := by decide +kernel
theorem dX8_about_138 : decode cX8_about 138 = .ok (.irem, 1) := by decide +kernel
theorem dX8_about_139 : decode cX8_about 139 = .ok (.ifCond .ne 18, 3) := by decide +kernel
theorem dX8_about_142 : decode cX8_about 142 = .ok (.aload_n 0, 1) := by decide +kernel
theorem dX8_about_143 : decode cX8_about 143 = .ok (.getfield 20, 3) := by decide +kernel
theorem dX8_about_146 : decode cX8_about 146 = .ok (.bipush 7, 2) := by decide +kernel
theorem dX8_about_148 : decode cX8_about 148 = .ok (.iload_n 2, 1) := by decide +kernel
theorem dX8_about_149 : decode cX8_about 149 = .ok (.imul, 1) := by decide +kernel
theorem dX8_about_150 : decode cX8_about 150 = .ok (.iload 4, 2) := by decide +kernel
theorem dX8_about_152 : decode cX8_about 152 = .ok (.iadd, 1) := by decide +kernel
theorem dX8_about_153 : decode cX8_about 153 = .ok (.iaload, 1) := by decide +kernel
theorem dX8_about_154 : decode cX8_about 154 = .ok (.goto 38, 3) := by decide +kernel
theorem dX8_about_157 : decode cX8_about 157 = .ok (.iload_n 3, 1) := by decide +kernel
theorem dX8_about_158 : decode cX8_about 158 = .ok (.bipush 10, 2) := by decide +kernel
theorem dX8_about_160 : decode cX8_about 160 = .ok (.irem, 1) := by decide +kernel
theorem dX8_about_161 : decode cX8_about 161 = .ok (.iconst 1, 1) := by decide +kernel
theorem dX8_about_162 : decode cX8_about 162 = .ok (.if_icmp .ne 18, 3) := by decide +kernel
theorem dX8_about_165 : decode cX8_about 165 = .ok (.aload_n 0, 1) := by decide +kernel
theorem dX8_about_166 : decode cX8_about 166 = .ok (.getfield 23, 3) := by decide +kernel
theorem dX8_about_169 : decode cX8_about 169 = .ok (.bipush 7, 2) := by decide +kernel
theorem dX8_about_171 : decode cX8_about 171 = .ok (.iload_n 2, 1) := by decide +kernel
theorem dX8_about_172 : decode cX8_about 172 = .ok (.imul, 1) := by decide +kernel
theorem dX8_about_173 : decode cX8_about 173 = .ok (.iload 4, 2) := by decide +kernel
theorem dX8_about_175 : decode cX8_about 175 = .ok (.iadd, 1) := by decide +kernel
theorem dX8_about_176 : decode cX8_about 176 = .ok (.iaload, 1) := by decide +kernel
theorem dX8_about_177 : decode cX8_about 177 = .ok (.goto 15, 3) := by decide +kernel
theorem dX8_about_180 : decode cX8_about 180 = .ok (.aload_n 0, 1) := by decide +kernel
theorem dX8_about_181 : decode cX8_about 181 = .ok (.getfield 26, 3) := by decide +kernel
theorem dX8_about_184 : decode cX8_about 184 = .ok (.bipush 7, 2) := by decide +kernel
theorem dX8_about_186 : decode cX8_about 186 = .ok (.iload_n 2, 1) := by decide +kernel
theorem dX8_about_187 : decode cX8_about 187 = .ok (.imul, 1) := by decide +kernel
theorem dX8_about_188 : decode cX8_about 188 = .ok (.iload 4, 2) := by decide +kernel
theorem dX8_about_190 : decode cX8_about 190 = .ok (.iadd, 1) := by decide +kernel
theorem dX8_about_191 : decode cX8_about 191 = .ok (.iaload, 1) := by decide +kernel
theorem dX8_about_192 : decode cX8_about 192 = .ok (.ireturn, 1) := by decide +kernel
theorem dX8_ones_0 : decode cX8_ones 0 = .ok (.iconst 0, 1) := by decide +kernel
theorem dX8_ones_1 : decode cX8_ones 1 = .ok (.istore_n 2, 1) := by decide +kernel
theorem dX8_ones_2 : decode cX8_ones 2 = .ok (.iload_n 1, 1) := by decide +kernel
theorem dX8_ones_3 : decode cX8_ones 3 = .ok (.istore_n 3, 1) := by decide +kernel
theorem dX8_ones_4 : decode cX8_ones 4 = .ok (.iload_n 3, 1) := by decide +kernel
theorem dX8_ones_5 : decode cX8_ones 5 = .ok (.ifCond .eq 16, 3) := by decide +kernel
theorem dX8_ones_8 : decode cX8_ones 8 = .ok (.iload_n 2, 1) := by decide +kernel
theorem dX8_ones_9 : decode cX8_ones 9 = .ok (.iconst 1, 1) := by decide +kernel
theorem dX8_ones_10 : decode cX8_ones 10 = .ok (.iadd, 1) := by decide +kernel
theorem dX8_ones_11 : decode cX8_ones 11 = .ok (.istore_n 2, 1) := by decide +kernel
theorem dX8_ones_12 : decode cX8_ones 12 = .ok (.iload_n 3, 1) := by decide +kernel
theorem dX8_ones_13 : decode cX8_ones 13 = .ok (.iload_n 3, 1) := by decide +kernel
theorem dX8_ones_14 : decode cX8_ones 14 = .ok (.iconst 1, 1) := by decide +kernel
theorem dX8_ones_15 : decode cX8_ones 15 = .ok (.isub, 1) := by decide +kernel
theorem dX8_ones_16 : decode cX8_ones 16 = .ok (.iand, 1) := by decide +kernel
theorem dX8_ones_17 : decode cX8_ones 17 = .ok (.istore_n 3, 1) := by decide +kernel
theorem dX8_ones_18 : decode cX8_ones 18 = .ok (.goto (-14), 3) := by decide +kernel
theorem dX8_ones_21 : decode cX8_ones 21 = .ok (.iload_n 2, 1) := by decide +kernel
theorem dX8_ones_22 : decode cX8_ones 22 = .ok (.ireturn, 1) := by decide +kernel
theorem dX8_signs_0 : decode cX8_signs 0 = .ok (.aload_n 0, 1) := by decide +kernel
theorem dX8_signs_1 : decode cX8_signs 1 = .ok (.iconst 0, 1) := by decide +kernel
theorem dX8_signs_2 : decode cX8_signs 2 = .ok (.putfield 94, 3) := by decide +kernel
theorem dX8_signs_5 : decode cX8_signs 5 = .ok (.aload_n 0, 1) := by decide +kernel
theorem dX8_signs_6 : decode cX8_signs 6 = .ok (.iload_n 1, 1) := by decide +kernel
theorem dX8_signs_7 : decode cX8_signs 7 = .ok (.invokevirtual 104, 3) := by decide +kernel
theorem dX8_signs_10 : decode cX8_signs 10 = .ok (.ifCond .eq 12, 3) := by decide +kernel
theorem dX8_signs_13 : decode cX8_signs 13 = .ok (.iload_n 2, 1) := by decide +kernel
theorem dX8_signs_14 : decode cX8_signs 14 = .ok (.ifCond .lt 8, 3) := by decide +kernel
theorem dX8_signs_17 : decode cX8_signs 17 = .ok (.iload_n 2, 1) := by decide +kernel
theorem dX8_signs_18 : decode cX8_signs 18 = .ok (.iconst 1, 1) := by decide +kernel
theorem dX8_signs_19 : decode cX8_signs 19 = .ok (.if_icmp .le 5, 3) := by decide +kernel
theorem dX8_signs_22 : decode cX8_signs 22 = .ok (.iconst (-1), 1) := by decide +kernel
theorem dX8_signs_23 : decode cX8_signs 23 = .ok (.ireturn, 1) := by decide +kernel
theorem dX8_signs_24 : decode cX8_signs 24 = .ok (.sipush 8191, 3) := by decide +kernel
theorem dX8_signs_27 : decode cX8_signs 27 = .ok (.istore_n 3, 1) := by decide +kernel
theorem dX8_signs_28 : decode cX8_signs 28 = .ok (.iconst 0, 1) := by decide +kernel
theorem dX8_signs_29 : decode cX8_signs 29 = .ok (.istore 4, 2) := by decide +kernel
theorem dX8_signs_31 : decode cX8_signs 31 = .ok (.iconst 1, 1) := by decide +kernel
theorem dX8_signs_32 : decode cX8_signs 32 = .ok (.istore 5, 2) := by decide +kernel
theorem dX8_signs_34 : decode cX8_signs 34 = .ok (.iload 5, 2) := by decide +kernel
theorem dX8_signs_36 : decode cX8_signs 36 = .ok (.sipush 8192, 3) := by decide +kernel
theorem dX8_signs_39 : decode cX8_signs 39 = .ok (.if_icmp .ge 122, 3) := by decide +kernel
theorem dX8_signs_42 : decode cX8_signs 42 = .ok (.iconst 0, 1) := by decide +kernel
theorem dX8_signs_43 : decode cX8_signs 43 = .ok (.istore 6, 2) := by decide +kernel
theorem dX8_signs_45 : decode cX8_signs 45 = .ok (.iconst 1, 1) := by decide +kernel
theorem dX8_signs_46 : decode cX8_signs 46 = .ok (.istore 7, 2) := by decide +kernel
theorem dX8_signs_48 : decode cX8_signs 48 = .ok (.iconst 0, 1) := by decide +kernel
theorem dX8_signs_49 : decode cX8_signs 49 = .ok (.istore 8, 2) := by decide +kernel
theorem dX8_signs_51 : decode cX8_signs 51 = .ok (.iload 8, 2) := by decide +kernel
theorem dX8_signs_53 : decode cX8_signs 53 = .ok (.bipush 13, 2) := by decide +kernel
theorem dX8_signs_55 : decode cX8_signs 55 = .ok (.if_icmp .ge 56, 3) := by decide +kernel
theorem dX8_signs_58 : decode cX8_signs 58 = .ok (.iload 7, 2) := by decide +kernel
theorem dX8_signs_60 : decode cX8_signs 60 = .ok (.ifCond .eq 51, 3) := by decide +kernel
theorem dX8_signs_63 : decode cX8_signs 63 = .ok (.iload 5, 2) := by decide +kernel
theorem dX8_signs_65 : decode cX8_signs 65 = .ok (.iload 8, 2) := by decide +kernel
theorem dX8_signs_67 : decode cX8_signs 67 = .ok (.ishr, 1) := by decide +kernel
theorem dX8_signs_68 : decode cX8_signs 68 = .ok (.iconst 1, 1) := by decide +kernel
theorem dX8_signs_69 : decode cX8_signs 69 = .ok (.iand, 1) := by decide +kernel
theorem dX8_signs_70 : decode cX8_signs 70 = .ok (.ifCond .ne 6, 3) := by decide +kernel
theorem dX8_signs_73 : decode cX8_signs 73 = .ok (.goto 32, 3) := by decide +kernel
theorem dX8_signs_76 : decode cX8_signs 76 = .ok (.iload 6, 2) := by decide +kernel
theorem dX8_signs_78 : decode cX8_signs 78 = .ok (.aload_n 0, 1) := by decide +kernel
theorem dX8_signs_79 : decode cX8_signs 79 = .ok (.getfield 29, 3) := by decide +kernel
theorem dX8_signs_82 : decode cX8_signs 82 = .ok (.iload 8, 2) := by decide +kernel
theorem dX8_signs_84 : decode cX8_signs 84 = .ok (.iaload, 1) := by decide +kernel
theorem dX8_signs_85 : decode cX8_signs 85 = .ok (.ior, 1) := by decide +kernel
theorem dX8_signs_86 : decode cX8_signs 86 = .ok (.istore 6, 2) := by decide +kernel
theorem dX8_signs_88 : decode cX8_signs 88 = .ok (.aload_n 0, 1) := by decide +kernel
theorem dX8_signs_89 : decode cX8_signs 89 = .ok (.getfield 29, 3) := by decide +kernel
theorem dX8_signs_92 : decode cX8_signs 92 = .ok (.iload 8, 2) := by decide +kernel
theorem dX8_signs_94 : decode cX8_signs 94 = .ok (.iaload, 1) := by decide +kernel
theorem dX8_signs_95 : decode cX8_signs 95 = .ok (.ifCond .eq 7, 3) := by decide +kernel
theorem dX8_signs_98 : decode cX8_signs 98 = .ok (.iconst 1, 1) := by decide +kernel
theorem dX8_signs_99 : decode cX8_signs 99 = .ok (.goto 4, 3) := by decide +kernel
theorem dX8_signs_102 : decode cX8_signs 102 = .ok (.iconst 0, 1) := by decide +kernel
theorem dX8_signs_103 : decode cX8_signs 103 = .ok (.istore 7, 2) := by decide +kernel
theorem dX8_signs_105 : decode cX8_signs 105 = .ok (.iinc 8 1, 3) := by decide +kernel
theorem dX8_signs_108 : decode cX8_signs 108 = .ok (.goto (-57), 3) := by decide +kernel
theorem dX8_signs_111 : decode cX8_signs 111 = .ok (.iload 7, 2) := by decide +kernel
theorem dX8_signs_113 : decode cX8_signs 113 = .ok (.ifCond .eq 42, 3) := by decide +kernel
theorem dX8_signs_116 : decode cX8_signs 116 = .ok (.iload 6, 2) := by decide +kernel
theorem dX8_signs_118 : decode cX8_signs 118 = .ok (.aload_n 0, 1) := by decide +kernel
theorem dX8_signs_119 : decode cX8_signs 119 = .ok (.getfield 13, 3) := by decide +kernel
theorem dX8_signs_122 : decode cX8_signs 122 = .ok (.iload_n 1, 1) := by decide +kernel
theorem dX8_signs_123 : decode cX8_signs 123 = .ok (.iaload, 1) := by decide +kernel
theorem dX8_signs_124 : decode cX8_signs 124 = .ok (.if_icmp .ne 31, 3) := by decide +kernel
theorem dX8_signs_127 : decode cX8_signs 127 = .ok (.iload 4, 2) := by decide +kernel
theorem dX8_signs_129 : decode cX8_signs 129 = .ok (.ifCond .eq 20, 3) := by decide +kernel
theorem dX8_signs_132 : decode cX8_signs 132 = .ok (.aload_n 0, 1) := by decide +kernel
theorem dX8_signs_133 : decode cX8_signs 133 = .ok (.iload 5, 2) := by decide +kernel
theorem dX8_signs_135 : decode cX8_signs 135 = .ok (.invokevirtual 123, 3) := by decide +kernel
theorem dX8_signs_138 : decode cX8_signs 138 = .ok (.aload_n 0, 1) := by decide +kernel
theorem dX8_signs_139 : decode cX8_signs 139 = .ok (.iload_n 3, 1) := by decide +kernel
theorem dX8_signs_140 : decode cX8_signs 140 = .ok (.invokevirtual 123, 3) := by decide +kernel
theorem dX8_signs_143 : decode cX8_signs 143 = .ok (.if_icmp .lt 6, 3) := by decide +kernel
theorem dX8_signs_146 : decode cX8_signs 146 = .ok (.goto 9, 3) := by decide +kernel
theorem dX8_signs_149 : decode cX8_signs 149 = .ok (.iconst 1, 1) := by decide +kernel
theorem dX8_signs_150 : decode cX8_signs 150 = .ok (.istore 4, 2) := by decide +kernel
theorem dX8_signs_152 : decode cX8_signs 152 = .ok (.iload 5, 2) := by decide +kernel
theorem dX8_signs_154 : decode cX8_signs 154 = .ok (.istore_n 3, 1) := by decide +kernel
theorem dX8_signs_155 : decode cX8_signs 155 = .ok (.iinc 5 1, 3) := by decide +kernel
theorem dX8_signs_158 : decode cX8_signs 158 = .ok (.goto (-124), 3) := by decide +kernel
theorem dX8_signs_161 : decode cX8_signs 161 = .ok (.iload_n 2, 1) := by decide +kernel
theorem dX8_signs_162 : decode cX8_signs 162 = .ok (.ifCond .ne 11, 3) := by decide +kernel
theorem dX8_signs_165 : decode cX8_signs 165 = .ok (.aload_n 0, 1) := by decide +kernel
theorem dX8_signs_166 : decode cX8_signs 166 = .ok (.iload_n 3, 1) := by decide +kernel
theorem dX8_signs_167 : decode cX8_signs 167 = .ok (.invokevirtual 123, 3) := by decide +kernel
theorem dX8_signs_170 : decode cX8_signs 170 = .ok (.goto 4, 3) := by decide +kernel
theorem dX8_signs_173 : decode cX8_signs 173 = .ok (.iload_n 3, 1) := by decide +kernel
theorem dX8_signs_174 : decode cX8_signs 174 = .ok (.ireturn, 1) := by decide +kernel
theorem dX8_digit_0 : decode cX8_digit 0 = .ok (.iload_n 1, 1) := by decide +kernel
theorem dX8_digit_1 : decode cX8_digit 1 = .ok (.iconst 3, 1) := by decide +kernel
theorem dX8_digit_2 : decode cX8_digit 2 = .ok (.iload_n 2, 1) := by decide +kernel
theorem dX8_digit_3 : decode cX8_digit 3 = .ok (.imul, 1) := by decide +kernel
theorem dX8_digit_4 : decode cX8_digit 4 = .ok (.ishr, 1) := by decide +kernel
theorem dX8_digit_5 : decode cX8_digit 5 = .ok (.bipush 7, 2) := by decide +kernel
theorem dX8_digit_7 : decode cX8_digit 7 = .ok (.iand, 1) := by decide +kernel
theorem dX8_digit_8 : decode cX8_digit 8 = .ok (.ireturn, 1) := by decide +kernel
theorem dX8_behind_0 : decode cX8_behind 0 = .ok (.iload_n 1, 1) := by decide +kernel
theorem dX8_behind_1 : decode cX8_behind 1 = .ok (.istore_n 3, 1) := by decide +kernel
theorem dX8_behind_2 : decode cX8_behind 2 = .ok (.iconst 0, 1) := by decide +kernel
theorem dX8_behind_3 : decode cX8_behind 3 = .ok (.istore 4, 2) := by decide +kernel
theorem dX8_behind_5 : decode cX8_behind 5 = .ok (.iload 4, 2) := by decide +kernel
theorem dX8_behind_7 : decode cX8_behind 7 = .ok (.aload_n 0, 1) := by decide +kernel
theorem dX8_behind_8 : decode cX8_behind 8 = .ok (.getfield 120, 3) := by decide +kernel
theorem dX8_behind_11 : decode cX8_behind 11 = .ok (.if_icmp .ge 56, 3) := by decide +kernel
theorem dX8_behind_14 : decode cX8_behind 14 = .ok (.aload_n 0, 1) := by decide +kernel
theorem dX8_behind_15 : decode cX8_behind 15 = .ok (.iload_n 1, 1) := by decide +kernel
theorem dX8_behind_16 : decode cX8_behind 16 = .ok (.iload 4, 2) := by decide +kernel
theorem dX8_behind_18 : decode cX8_behind 18 = .ok (.invokevirtual 127, 3) := by decide +kernel
theorem dX8_behind_21 : decode cX8_behind 21 = .ok (.istore 5, 2) := by decide +kernel
theorem dX8_behind_23 : decode cX8_behind 23 = .ok (.iload 5, 2) := by decide +kernel
theorem dX8_behind_25 : decode cX8_behind 25 = .ok (.aload_n 0, 1) := by decide +kernel
theorem dX8_behind_26 : decode cX8_behind 26 = .ok (.getfield 38, 3) := by decide +kernel
theorem dX8_behind_29 : decode cX8_behind 29 = .ok (.iload 4, 2) := by decide +kernel
theorem dX8_behind_31 : decode cX8_behind 31 = .ok (.iaload, 1) := by decide +kernel
theorem dX8_behind_32 : decode cX8_behind 32 = .ok (.if_icmp .ge 29, 3) := by decide +kernel
theorem dX8_behind_35 : decode cX8_behind 35 = .ok (.aload_n 0, 1) := by decide +kernel
theorem dX8_behind_36 : decode cX8_behind 36 = .ok (.getfield 41, 3) := by decide +kernel
theorem dX8_behind_39 : decode cX8_behind 39 = .ok (.bipush 7, 2) := by decide +kernel
theorem dX8_behind_41 : decode cX8_behind 41 = .ok (.iload 4, 2) := by decide +kernel
theorem dX8_behind_43 : decode cX8_behind 43 = .ok (.imul, 1) := by decide +kernel
theorem dX8_behind_44 : decode cX8_behind 44 = .ok (.iload 5, 2) := by decide +kernel
theorem dX8_behind_46 : decode cX8_behind 46 = .ok (.iadd, 1) := by decide +kernel
theorem dX8_behind_47 : decode cX8_behind 47 = .ok (.iaload, 1) := by decide +kernel
theorem dX8_behind_48 : decode cX8_behind 48 = .ok (.iload_n 2, 1) := by decide +kernel
theorem dX8_behind_49 : decode cX8_behind 49 = .ok (.if_icmp .ne 12, 3) := by decide +kernel
theorem dX8_behind_52 : decode cX8_behind 52 = .ok (.iload_n 3, 1) := by decide +kernel
theorem dX8_behind_53 : decode cX8_behind 53 = .ok (.iconst 1, 1) := by decide +kernel
theorem dX8_behind_54 : decode cX8_behind 54 = .ok (.iconst 3, 1) := by decide +kernel
theorem dX8_behind_55 : decode cX8_behind 55 = .ok (.iload 4, 2) := by decide +kernel
theorem dX8_behind_57 : decode cX8_behind 57 = .ok (.imul, 1) := by decide +kernel
theorem dX8_behind_58 : decode cX8_behind 58 = .ok (.ishl, 1) := by decide +kernel
theorem dX8_behind_59 : decode cX8_behind 59 = .ok (.iadd, 1) := by decide +kernel
theorem dX8_behind_60 : decode cX8_behind 60 = .ok (.istore_n 3, 1) := by decide +kernel
theorem dX8_behind_61 : decode cX8_behind 61 = .ok (.iinc 4 1, 3) := by decide +kernel
theorem dX8_behind_64 : decode cX8_behind 64 = .ok (.goto (-59), 3) := by decide +kernel
theorem dX8_behind_67 : decode cX8_behind 67 = .ok (.iload_n 3, 1) := by decide +kernel
theorem dX8_behind_68 : decode cX8_behind 68 = .ok (.ireturn, 1) := by decide +kernel
theorem dX8_isPlace_0 : decode cX8_isPlace 0 = .ok (.iconst 0, 1) := by decide +kernel
theorem dX8_isPlace_1 : decode cX8_isPlace 1 = .ok (.istore_n 2, 1) := by decide +kernel
theorem dX8_isPlace_2 : decode cX8_isPlace 2 = .ok (.iload_n 2, 1) := by decide +kernel
theorem dX8_isPlace_3 : decode cX8_isPlace 3 = .ok (.aload_n 0, 1) := by decide +kernel
theorem dX8_isPlace_4 : decode cX8_isPlace 4 = .ok (.getfield 120, 3) := by decide +kernel
theorem dX8_isPlace_7 : decode cX8_isPlace 7 = .ok (.if_icmp .ge 26, 3) := by decide +kernel
theorem dX8_isPlace_10 : decode cX8_isPlace 10 = .ok (.aload_n 0, 1) := by decide +kernel
theorem dX8_isPlace_11 : decode cX8_isPlace 11 = .ok (.iload_n 1, 1) := by decide +kernel
theorem dX8_isPlace_12 : decode cX8_isPlace 12 = .ok (.iload_n 2, 1) := by decide +kernel
end
section
theorem dX8_isPlace_13 : decode cX8_isPlace 13 = .ok (.invokevirtual 127, 3) := by decide +kernel
theorem dX8_isPlace_16 : decode cX8_isPlace 16 = .ok (.aload_n 0, 1) := by decide +kernel
theorem dX8_isPlace_17 : decode cX8_isPlace 17 = .ok (.getfield 38, 3) := by decide +kernel
theorem dX8_isPlace_20 : decode cX8_isPlace 20 = .ok (.iload_n 2, 1) := by decide +kernel
theorem dX8_isPlace_21 : decode cX8_isPlace 21 = .ok (.iaload, 1) := by decide +kernel
theorem dX8_isPlace_22 : decode cX8_isPlace 22 = .ok (.if_icmp .le 5, 3) := by decide +kernel
theorem dX8_isPlace_25 : decode cX8_isPlace 25 = .ok (.iconst 0, 1) := by decide +kernel
theorem dX8_isPlace_26 : decode cX8_isPlace 26 = .ok (.ireturn, 1) := by decide +kernel
theorem dX8_isPlace_27 : decode cX8_isPlace 27 = .ok (.iinc 2 1, 3) := by decide +kernel
theorem dX8_isPlace_30 : decode cX8_isPlace 30 = .ok (.goto (-28), 3) := by decide +kernel
theorem dX8_isPlace_33 : decode cX8_isPlace 33 = .ok (.iconst 1, 1) := by decide +kernel
theorem dX8_isPlace_34 : decode cX8_isPlace 34 = .ok (.ireturn, 1) := by decide +kernel
theorem dX8_findRows_0 : decode cX8_findRows 0 = .ok (.iconst 0, 1) := by decide +kernel
theorem dX8_findRows_1 : decode cX8_findRows 1 = .ok (.istore_n 1, 1) := by decide +kernel
theorem dX8_findRows_2 : decode cX8_findRows 2 = .ok (.iconst 0, 1) := by decide +kernel
theorem dX8_findRows_3 : decode cX8_findRows 3 = .ok (.istore_n 2, 1) := by decide +kernel
theorem dX8_findRows_4 : decode cX8_findRows 4 = .ok (.iload_n 2, 1) := by decide +kernel
theorem dX8_findRows_5 : decode cX8_findRows 5 = .ok (.aload_n 0, 1) := by decide +kernel
theorem dX8_findRows_6 : decode cX8_findRows 6 = .ok (.getfield 120, 3) := by decide +kernel
theorem dX8_findRows_9 : decode cX8_findRows 9 = .ok (.if_icmp .ge 22, 3) := by decide +kernel
theorem dX8_findRows_12 : decode cX8_findRows 12 = .ok (.iload_n 1, 1) := by decide +kernel
theorem dX8_findRows_13 : decode cX8_findRows 13 = .ok (.aload_n 0, 1) := by decide +kernel
theorem dX8_findRows_14 : decode cX8_findRows 14 = .ok (.getfield 38, 3) := by decide +kernel
theorem dX8_findRows_17 : decode cX8_findRows 17 = .ok (.iload_n 2, 1) := by decide +kernel
theorem dX8_findRows_18 : decode cX8_findRows 18 = .ok (.iaload, 1) := by decide +kernel
theorem dX8_findRows_19 : decode cX8_findRows 19 = .ok (.iconst 3, 1) := by decide +kernel
theorem dX8_findRows_20 : decode cX8_findRows 20 = .ok (.iload_n 2, 1) := by decide +kernel
theorem dX8_findRows_21 : decode cX8_findRows 21 = .ok (.imul, 1) := by decide +kernel
theorem dX8_findRows_22 : decode cX8_findRows 22 = .ok (.ishl, 1) := by decide +kernel
theorem dX8_findRows_23 : decode cX8_findRows 23 = .ok (.ior, 1) := by decide +kernel
theorem dX8_findRows_24 : decode cX8_findRows 24 = .ok (.istore_n 1, 1) := by decide +kernel
theorem dX8_findRows_25 : decode cX8_findRows 25 = .ok (.iinc 2 1, 3) := by decide +kernel
theorem dX8_findRows_28 : decode cX8_findRows 28 = .ok (.goto (-24), 3) := by decide +kernel
theorem dX8_findRows_31 : decode cX8_findRows 31 = .ok (.iload_n 1, 1) := by decide +kernel
theorem dX8_findRows_32 : decode cX8_findRows 32 = .ok (.istore_n 2, 1) := by decide +kernel
theorem dX8_findRows_33 : decode cX8_findRows 33 = .ok (.iload_n 2, 1) := by decide +kernel
theorem dX8_findRows_34 : decode cX8_findRows 34 = .ok (.ifCond .lt 99, 3) := by decide +kernel
theorem dX8_findRows_37 : decode cX8_findRows 37 = .ok (.aload_n 0, 1) := by decide +kernel
theorem dX8_findRows_38 : decode cX8_findRows 38 = .ok (.iload_n 2, 1) := by decide +kernel
theorem dX8_findRows_39 : decode cX8_findRows 39 = .ok (.invokevirtual 130, 3) := by decide +kernel
theorem dX8_findRows_42 : decode cX8_findRows 42 = .ok (.ifCond .ne 6, 3) := by decide +kernel
theorem dX8_findRows_45 : decode cX8_findRows 45 = .ok (.goto 82, 3) := by decide +kernel
theorem dX8_findRows_48 : decode cX8_findRows 48 = .ok (.iload_n 2, 1) := by decide +kernel
theorem dX8_findRows_49 : decode cX8_findRows 49 = .ok (.iload_n 1, 1) := by decide +kernel
theorem dX8_findRows_50 : decode cX8_findRows 50 = .ok (.if_icmp .ne 7, 3) := by decide +kernel
theorem dX8_findRows_53 : decode cX8_findRows 53 = .ok (.iconst 0, 1) := by decide +kernel
theorem dX8_findRows_54 : decode cX8_findRows 54 = .ok (.goto 6, 3) := by decide +kernel
theorem dX8_findRows_57 : decode cX8_findRows 57 = .ok (.sipush 1000, 3) := by decide +kernel
theorem dX8_findRows_60 : decode cX8_findRows 60 = .ok (.istore_n 3, 1) := by decide +kernel
theorem dX8_findRows_61 : decode cX8_findRows 61 = .ok (.iconst 0, 1) := by decide +kernel
theorem dX8_findRows_62 : decode cX8_findRows 62 = .ok (.istore 4, 2) := by decide +kernel
theorem dX8_findRows_64 : decode cX8_findRows 64 = .ok (.iload 4, 2) := by decide +kernel
theorem dX8_findRows_66 : decode cX8_findRows 66 = .ok (.bipush 12, 2) := by decide +kernel
theorem dX8_findRows_68 : decode cX8_findRows 68 = .ok (.if_icmp .ge 52, 3) := by decide +kernel
theorem dX8_findRows_71 : decode cX8_findRows 71 = .ok (.iload_n 2, 1) := by decide +kernel
theorem dX8_findRows_72 : decode cX8_findRows 72 = .ok (.iload_n 1, 1) := by decide +kernel
theorem dX8_findRows_73 : decode cX8_findRows 73 = .ok (.if_icmp .eq 47, 3) := by decide +kernel
theorem dX8_findRows_76 : decode cX8_findRows 76 = .ok (.aload_n 0, 1) := by decide +kernel
theorem dX8_findRows_77 : decode cX8_findRows 77 = .ok (.iload_n 2, 1) := by decide +kernel
theorem dX8_findRows_78 : decode cX8_findRows 78 = .ok (.iload 4, 2) := by decide +kernel
theorem dX8_findRows_80 : decode cX8_findRows 80 = .ok (.invokevirtual 133, 3) := by decide +kernel
theorem dX8_findRows_83 : decode cX8_findRows 83 = .ok (.istore 5, 2) := by decide +kernel
theorem dX8_findRows_85 : decode cX8_findRows 85 = .ok (.iload 5, 2) := by decide +kernel
theorem dX8_findRows_87 : decode cX8_findRows 87 = .ok (.iload_n 2, 1) := by decide +kernel
theorem dX8_findRows_88 : decode cX8_findRows 88 = .ok (.if_icmp .eq 26, 3) := by decide +kernel
theorem dX8_findRows_91 : decode cX8_findRows 91 = .ok (.aload_n 0, 1) := by decide +kernel
theorem dX8_findRows_92 : decode cX8_findRows 92 = .ok (.getfield 60, 3) := by decide +kernel
theorem dX8_findRows_95 : decode cX8_findRows 95 = .ok (.iload 5, 2) := by decide +kernel
theorem dX8_findRows_97 : decode cX8_findRows 97 = .ok (.iaload, 1) := by decide +kernel
theorem dX8_findRows_98 : decode cX8_findRows 98 = .ok (.iconst 1, 1) := by decide +kernel
theorem dX8_findRows_99 : decode cX8_findRows 99 = .ok (.iadd, 1) := by decide +kernel
theorem dX8_findRows_100 : decode cX8_findRows 100 = .ok (.iload_n 3, 1) := by decide +kernel
theorem dX8_findRows_101 : decode cX8_findRows 101 = .ok (.if_icmp .ge 13, 3) := by decide +kernel
theorem dX8_findRows_104 : decode cX8_findRows 104 = .ok (.aload_n 0, 1) := by decide +kernel
theorem dX8_findRows_105 : decode cX8_findRows 105 = .ok (.getfield 60, 3) := by decide +kernel
theorem dX8_findRows_108 : decode cX8_findRows 108 = .ok (.iload 5, 2) := by decide +kernel
theorem dX8_findRows_110 : decode cX8_findRows 110 = .ok (.iaload, 1) := by decide +kernel
theorem dX8_findRows_111 : decode cX8_findRows 111 = .ok (.iconst 1, 1) := by decide +kernel
theorem dX8_findRows_112 : decode cX8_findRows 112 = .ok (.iadd, 1) := by decide +kernel
theorem dX8_findRows_113 : decode cX8_findRows 113 = .ok (.istore_n 3, 1) := by decide +kernel
theorem dX8_findRows_114 : decode cX8_findRows 114 = .ok (.iinc 4 1, 3) := by decide +kernel
theorem dX8_findRows_117 : decode cX8_findRows 117 = .ok (.goto (-53), 3) := by decide +kernel
theorem dX8_findRows_120 : decode cX8_findRows 120 = .ok (.aload_n 0, 1) := by decide +kernel
theorem dX8_findRows_121 : decode cX8_findRows 121 = .ok (.getfield 60, 3) := by decide +kernel
theorem dX8_findRows_124 : decode cX8_findRows 124 = .ok (.iload_n 2, 1) := by decide +kernel
theorem dX8_findRows_125 : decode cX8_findRows 125 = .ok (.iload_n 3, 1) := by decide +kernel
theorem dX8_findRows_126 : decode cX8_findRows 126 = .ok (.iastore, 1) := by decide +kernel
theorem dX8_findRows_127 : decode cX8_findRows 127 = .ok (.iinc 2 (-1), 3) := by decide +kernel
theorem dX8_findRows_130 : decode cX8_findRows 130 = .ok (.goto (-97), 3) := by decide +kernel
theorem dX8_findRows_133 : decode cX8_findRows 133 = .ok (.aload_n 0, 1) := by decide +kernel
theorem dX8_findRows_134 : decode cX8_findRows 134 = .ok (.iconst 0, 1) := by decide +kernel
theorem dX8_findRows_135 : decode cX8_findRows 135 = .ok (.putfield 117, 3) := by decide +kernel
theorem dX8_findRows_138 : decode cX8_findRows 138 = .ok (.iconst 0, 1) := by decide +kernel
theorem dX8_findRows_139 : decode cX8_findRows 139 = .ok (.istore_n 2, 1) := by decide +kernel
theorem dX8_findRows_140 : decode cX8_findRows 140 = .ok (.iload_n 2, 1) := by decide +kernel
theorem dX8_findRows_141 : decode cX8_findRows 141 = .ok (.iload_n 1, 1) := by decide +kernel
theorem dX8_findRows_142 : decode cX8_findRows 142 = .ok (.if_icmp .eq 136, 3) := by decide +kernel
theorem dX8_findRows_145 : decode cX8_findRows 145 = .ok (.iconst 0, 1) := by decide +kernel
theorem dX8_findRows_146 : decode cX8_findRows 146 = .ok (.istore_n 3, 1) := by decide +kernel
theorem dX8_findRows_147 : decode cX8_findRows 147 = .ok (.aload_n 0, 1) := by decide +kernel
theorem dX8_findRows_148 : decode cX8_findRows 148 = .ok (.iload_n 2, 1) := by decide +kernel
theorem dX8_findRows_149 : decode cX8_findRows 149 = .ok (.iload_n 3, 1) := by decide +kernel
theorem dX8_findRows_150 : decode cX8_findRows 150 = .ok (.invokevirtual 133, 3) := by decide +kernel
theorem dX8_findRows_153 : decode cX8_findRows 153 = .ok (.iload_n 2, 1) := by decide +kernel
theorem dX8_findRows_154 : decode cX8_findRows 154 = .ok (.if_icmp .eq 25, 3) := by decide +kernel
theorem dX8_findRows_157 : decode cX8_findRows 157 = .ok (.aload_n 0, 1) := by decide +kernel
theorem dX8_findRows_158 : decode cX8_findRows 158 = .ok (.getfield 60, 3) := by decide +kernel
theorem dX8_findRows_161 : decode cX8_findRows 161 = .ok (.aload_n 0, 1) := by decide +kernel
theorem dX8_findRows_162 : decode cX8_findRows 162 = .ok (.iload_n 2, 1) := by decide +kernel
theorem dX8_findRows_163 : decode cX8_findRows 163 = .ok (.iload_n 3, 1) := by decide +kernel
theorem dX8_findRows_164 : decode cX8_findRows 164 = .ok (.invokevirtual 133, 3) := by decide +kernel
theorem dX8_findRows_167 : decode cX8_findRows 167 = .ok (.iaload, 1) := by decide +kernel
theorem dX8_findRows_168 : decode cX8_findRows 168 = .ok (.iconst 1, 1) := by decide +kernel
theorem dX8_findRows_169 : decode cX8_findRows 169 = .ok (.iadd, 1) := by decide +kernel
theorem dX8_findRows_170 : decode cX8_findRows 170 = .ok (.aload_n 0, 1) := by decide +kernel
theorem dX8_findRows_171 : decode cX8_findRows 171 = .ok (.getfield 60, 3) := by decide +kernel
theorem dX8_findRows_174 : decode cX8_findRows 174 = .ok (.iload_n 2, 1) := by decide +kernel
theorem dX8_findRows_175 : decode cX8_findRows 175 = .ok (.iaload, 1) := by decide +kernel
theorem dX8_findRows_176 : decode cX8_findRows 176 = .ok (.if_icmp .eq 10, 3) := by decide +kernel
theorem dX8_findRows_179 : decode cX8_findRows 179 = .ok (.iload_n 3, 1) := by decide +kernel
theorem dX8_findRows_180 : decode cX8_findRows 180 = .ok (.iconst 1, 1) := by decide +kernel
theorem dX8_findRows_181 : decode cX8_findRows 181 = .ok (.iadd, 1) := by decide +kernel
theorem dX8_findRows_182 : decode cX8_findRows 182 = .ok (.istore_n 3, 1) := by decide +kernel
theorem dX8_findRows_183 : decode cX8_findRows 183 = .ok (.goto (-36), 3) := by decide +kernel
theorem dX8_findRows_186 : decode cX8_findRows 186 = .ok (.aload_n 0, 1) := by decide +kernel
theorem dX8_findRows_187 : decode cX8_findRows 187 = .ok (.getfield 32, 3) := by decide +kernel
theorem dX8_findRows_190 : decode cX8_findRows 190 = .ok (.aload_n 0, 1) := by decide +kernel
theorem dX8_findRows_191 : decode cX8_findRows 191 = .ok (.getfield 117, 3) := by decide +kernel
theorem dX8_findRows_194 : decode cX8_findRows 194 = .ok (.iload_n 3, 1) := by decide +kernel
theorem dX8_findRows_195 : decode cX8_findRows 195 = .ok (.iastore, 1) := by decide +kernel
theorem dX8_findRows_196 : decode cX8_findRows 196 = .ok (.iconst 0, 1) := by decide +kernel
theorem dX8_findRows_197 : decode cX8_findRows 197 = .ok (.istore 4, 2) := by decide +kernel
theorem dX8_findRows_199 : decode cX8_findRows 199 = .ok (.iload 4, 2) := by decide +kernel
theorem dX8_findRows_201 : decode cX8_findRows 201 = .ok (.aload_n 0, 1) := by decide +kernel
theorem dX8_findRows_202 : decode cX8_findRows 202 = .ok (.getfield 120, 3) := by decide +kernel
theorem dX8_findRows_205 : decode cX8_findRows 205 = .ok (.if_icmp .ge 53, 3) := by decide +kernel
theorem dX8_findRows_208 : decode cX8_findRows 208 = .ok (.aload_n 0, 1) := by decide +kernel
theorem dX8_findRows_209 : decode cX8_findRows 209 = .ok (.aload_n 0, 1) := by decide +kernel
theorem dX8_findRows_210 : decode cX8_findRows 210 = .ok (.iload_n 2, 1) := by decide +kernel
theorem dX8_findRows_211 : decode cX8_findRows 211 = .ok (.iload_n 3, 1) := by decide +kernel
theorem dX8_findRows_212 : decode cX8_findRows 212 = .ok (.invokevirtual 133, 3) := by decide +kernel
theorem dX8_findRows_215 : decode cX8_findRows 215 = .ok (.iload 4, 2) := by decide +kernel
theorem dX8_findRows_217 : decode cX8_findRows 217 = .ok (.invokevirtual 127, 3) := by decide +kernel
theorem dX8_findRows_220 : decode cX8_findRows 220 = .ok (.aload_n 0, 1) := by decide +kernel
theorem dX8_findRows_221 : decode cX8_findRows 221 = .ok (.iload_n 2, 1) := by decide +kernel
theorem dX8_findRows_222 : decode cX8_findRows 222 = .ok (.iload 4, 2) := by decide +kernel
theorem dX8_findRows_224 : decode cX8_findRows 224 = .ok (.invokevirtual 127, 3) := by decide +kernel
theorem dX8_findRows_227 : decode cX8_findRows 227 = .ok (.if_icmp .le 25, 3) := by decide +kernel
theorem dX8_findRows_230 : decode cX8_findRows 230 = .ok (.aload_n 0, 1) := by decide +kernel
theorem dX8_findRows_231 : decode cX8_findRows 231 = .ok (.getfield 50, 3) := by decide +kernel
theorem dX8_findRows_234 : decode cX8_findRows 234 = .ok (.bipush 7, 2) := by decide +kernel
theorem dX8_findRows_236 : decode cX8_findRows 236 = .ok (.iload 4, 2) := by decide +kernel
theorem dX8_findRows_238 : decode cX8_findRows 238 = .ok (.imul, 1) := by decide +kernel
theorem dX8_findRows_239 : decode cX8_findRows 239 = .ok (.aload_n 0, 1) := by decide +kernel
theorem dX8_findRows_240 : decode cX8_findRows 240 = .ok (.iload_n 2, 1) := by decide +kernel
theorem dX8_findRows_241 : decode cX8_findRows 241 = .ok (.iload 4, 2) := by decide +kernel
theorem dX8_findRows_243 : decode cX8_findRows 243 = .ok (.invokevirtual 127, 3) := by decide +kernel
theorem dX8_findRows_246 : decode cX8_findRows 246 = .ok (.iadd, 1) := by decide +kernel
theorem dX8_findRows_247 : decode cX8_findRows 247 = .ok (.aload_n 0, 1) := by decide +kernel
theorem dX8_findRows_248 : decode cX8_findRows 248 = .ok (.getfield 117, 3) := by decide +kernel
theorem dX8_findRows_251 : decode cX8_findRows 251 = .ok (.iastore, 1) := by decide +kernel
theorem dX8_findRows_252 : decode cX8_findRows 252 = .ok (.iinc 4 1, 3) := by decide +kernel
theorem dX8_findRows_255 : decode cX8_findRows 255 = .ok (.goto (-56), 3) := by decide +kernel
theorem dX8_findRows_258 : decode cX8_findRows 258 = .ok (.aload_n 0, 1) := by decide +kernel
theorem dX8_findRows_259 : decode cX8_findRows 259 = .ok (.aload_n 0, 1) := by decide +kernel
theorem dX8_findRows_260 : decode cX8_findRows 260 = .ok (.getfield 117, 3) := by decide +kernel
theorem dX8_findRows_263 : decode cX8_findRows 263 = .ok (.iconst 1, 1) := by decide +kernel
theorem dX8_findRows_264 : decode cX8_findRows 264 = .ok (.iadd, 1) := by decide +kernel
theorem dX8_findRows_265 : decode cX8_findRows 265 = .ok (.putfield 117, 3) := by decide +kernel
theorem dX8_findRows_268 : decode cX8_findRows 268 = .ok (.aload_n 0, 1) := by decide +kernel
theorem dX8_findRows_269 : decode cX8_findRows 269 = .ok (.iload_n 2, 1) := by decide +kernel
theorem dX8_findRows_270 : decode cX8_findRows 270 = .ok (.iload_n 3, 1) := by decide +kernel
theorem dX8_findRows_271 : decode cX8_findRows 271 = .ok (.invokevirtual 133, 3) := by decide +kernel
theorem dX8_findRows_274 : decode cX8_findRows 274 = .ok (.istore_n 2, 1) := by decide +kernel
theorem dX8_findRows_275 : decode cX8_findRows 275 = .ok (.goto (-135), 3) := by decide +kernel
theorem dX8_findRows_278 : decode cX8_findRows 278 = .ok (.return_, 1) := by decide +kernel
theorem dX8_leaves_0 : decode cX8_leaves 0 = .ok (.iload_n 2, 1) := by decide +kernel
theorem dX8_leaves_1 : decode cX8_leaves 1 = .ok (.aload_n 0, 1) := by decide +kernel
theorem dX8_leaves_2 : decode cX8_leaves 2 = .ok (.getfield 38, 3) := by decide +kernel
theorem dX8_leaves_5 : decode cX8_leaves 5 = .ok (.iload_n 1, 1) := by decide +kernel
theorem dX8_leaves_6 : decode cX8_leaves 6 = .ok (.iaload, 1) := by decide +kernel
theorem dX8_leaves_7 : decode cX8_leaves 7 = .ok (.iconst 1, 1) := by decide +kernel
theorem dX8_leaves_8 : decode cX8_leaves 8 = .ok (.isub, 1) := by decide +kernel
theorem dX8_leaves_9 : decode cX8_leaves 9 = .ok (.if_icmp .ne 17, 3) := by decide +kernel
theorem dX8_leaves_12 : decode cX8_leaves 12 = .ok (.aload_n 0, 1) := by decide +kernel
theorem dX8_leaves_13 : decode cX8_leaves 13 = .ok (.getfield 44, 3) := by decide +kernel
theorem dX8_leaves_16 : decode cX8_leaves 16 = .ok (.bipush 7, 2) := by decide +kernel
theorem dX8_leaves_18 : decode cX8_leaves 18 = .ok (.iload_n 1, 1) := by decide +kernel
theorem dX8_leaves_19 : decode cX8_leaves 19 = .ok (.imul, 1) := by decide +kernel
theorem dX8_leaves_20 : decode cX8_leaves 20 = .ok (.iload_n 2, 1) := by decide +kernel
theorem dX8_leaves_21 : decode cX8_leaves 21 = .ok (.iadd, 1) := by decide +kernel
theorem dX8_leaves_22 : decode cX8_leaves 22 = .ok (.iaload, 1) := by decide +kernel
theorem dX8_leaves_23 : decode cX8_leaves 23 = .ok (.goto 14, 3) := by decide +kernel
theorem dX8_leaves_26 : decode cX8_leaves 26 = .ok (.aload_n 0, 1) := by decide +kernel
theorem dX8_leaves_27 : decode cX8_leaves 27 = .ok (.getfield 47, 3) := by decide +kernel
theorem dX8_leaves_30 : decode cX8_leaves 30 = .ok (.bipush 7, 2) := by decide +kernel
theorem dX8_leaves_32 : decode cX8_leaves 32 = .ok (.iload_n 1, 1) := by decide +kernel
theorem dX8_leaves_33 : decode cX8_leaves 33 = .ok (.imul, 1) := by decide +kernel
theorem dX8_leaves_34 : decode cX8_leaves 34 = .ok (.iload_n 2, 1) := by decide +kernel
theorem dX8_leaves_35 : decode cX8_leaves 35 = .ok (.iadd, 1) := by decide +kernel
theorem dX8_leaves_36 : decode cX8_leaves 36 = .ok (.iaload, 1) := by decide +kernel
theorem dX8_leaves_37 : decode cX8_leaves 37 = .ok (.ireturn, 1) := by decide +kernel
theorem dX8_isBreach_0 : decode cX8_isBreach 0 = .ok (.iconst 0, 1) := by decide +kernel
theorem dX8_isBreach_1 : decode cX8_isBreach 1 = .ok (.istore_n 3, 1) := by decide +kernel
theorem dX8_isBreach_2 : decode cX8_isBreach 2 = .ok (.iload_n 3, 1) := by decide +kernel
theorem dX8_isBreach_3 : decode cX8_isBreach 3 = .ok (.aload_n 0, 1) := by decide +kernel
theorem dX8_isBreach_4 : decode cX8_isBreach 4 = .ok (.getfield 38, 3) := by decide +kernel
theorem dX8_isBreach_7 : decode cX8_isBreach 7 = .ok (.iload_n 1, 1) := by decide +kernel
theorem dX8_isBreach_8 : decode cX8_isBreach 8 = .ok (.iaload, 1) := by decide +kernel
theorem dX8_isBreach_9 : decode cX8_isBreach 9 = .ok (.if_icmp .ge 73, 3) := by decide +kernel
theorem dX8_isBreach_12 : decode cX8_isBreach 12 = .ok (.iconst 0, 1) := by decide +kernel
theorem dX8_isBreach_13 : decode cX8_isBreach 13 = .ok (.istore 4, 2) := by decide +kernel
theorem dX8_isBreach_15 : decode cX8_isBreach 15 = .ok (.iload 4, 2) := by decide +kernel
theorem dX8_isBreach_17 : decode cX8_isBreach 17 = .ok (.aload_n 0, 1) := by decide +kernel
theorem dX8_isBreach_18 : decode cX8_isBreach 18 = .ok (.getfield 38, 3) := by decide +kernel
theorem dX8_isBreach_21 : decode cX8_isBreach 21 = .ok (.iload_n 2, 1) := by decide +kernel
theorem dX8_isBreach_22 : decode cX8_isBreach 22 = .ok (.iaload, 1) := by decide +kernel
theorem dX8_isBreach_23 : decode cX8_isBreach 23 = .ok (.if_icmp .ge 53, 3) := by decide +kernel
theorem dX8_isBreach_26 : decode cX8_isBreach 26 = .ok (.aload_n 0, 1) := by decide +kernel
theorem dX8_isBreach_27 : decode cX8_isBreach 27 = .ok (.getfield 41, 3) := by decide +kernel
theorem dX8_isBreach_30 : decode cX8_isBreach 30 = .ok (.bipush 7, 2) := by decide +kernel
theorem dX8_isBreach_32 : decode cX8_isBreach 32 = .ok (.iload_n 1, 1) := by decide +kernel
theorem dX8_isBreach_33 : decode cX8_isBreach 33 = .ok (.imul, 1) := by decide +kernel
theorem dX8_isBreach_34 : decode cX8_isBreach 34 = .ok (.iload_n 3, 1) := by decide +kernel
theorem dX8_isBreach_35 : decode cX8_isBreach 35 = .ok (.iadd, 1) := by decide +kernel
theorem dX8_isBreach_36 : decode cX8_isBreach 36 = .ok (.iaload, 1) := by decide +kernel
theorem dX8_isBreach_37 : decode cX8_isBreach 37 = .ok (.aload_n 0, 1) := by decide +kernel
theorem dX8_isBreach_38 : decode cX8_isBreach 38 = .ok (.getfield 41, 3) := by decide +kernel
theorem dX8_isBreach_41 : decode cX8_isBreach 41 = .ok (.bipush 7, 2) := by decide +kernel
theorem dX8_isBreach_43 : decode cX8_isBreach 43 = .ok (.iload_n 2, 1) := by decide +kernel
theorem dX8_isBreach_44 : decode cX8_isBreach 44 = .ok (.imul, 1) := by decide +kernel
theorem dX8_isBreach_45 : decode cX8_isBreach 45 = .ok (.iload 4, 2) := by decide +kernel
theorem dX8_isBreach_47 : decode cX8_isBreach 47 = .ok (.iadd, 1) := by decide +kernel
theorem dX8_isBreach_48 : decode cX8_isBreach 48 = .ok (.iaload, 1) := by decide +kernel
theorem dX8_isBreach_49 : decode cX8_isBreach 49 = .ok (.if_icmp .ne 21, 3) := by decide +kernel
theorem dX8_isBreach_52 : decode cX8_isBreach 52 = .ok (.aload_n 0, 1) := by decide +kernel
theorem dX8_isBreach_53 : decode cX8_isBreach 53 = .ok (.iload_n 2, 1) := by decide +kernel
theorem dX8_isBreach_54 : decode cX8_isBreach 54 = .ok (.iload 4, 2) := by decide +kernel
theorem dX8_isBreach_56 : decode cX8_isBreach 56 = .ok (.invokevirtual 136, 3) := by decide +kernel
theorem dX8_isBreach_59 : decode cX8_isBreach 59 = .ok (.aload_n 0, 1) := by decide +kernel
theorem dX8_isBreach_60 : decode cX8_isBreach 60 = .ok (.iload_n 1, 1) := by decide +kernel
theorem dX8_isBreach_61 : decode cX8_isBreach 61 = .ok (.iload_n 3, 1) := by decide +kernel
theorem dX8_isBreach_62 : decode cX8_isBreach 62 = .ok (.invokevirtual 136, 3) := by decide +kernel
theorem dX8_isBreach_65 : decode cX8_isBreach 65 = .ok (.if_icmp .ge 5, 3) := by decide +kernel
theorem dX8_isBreach_68 : decode cX8_isBreach 68 = .ok (.iconst 1, 1) := by decide +kernel
theorem dX8_isBreach_69 : decode cX8_isBreach 69 = .ok (.ireturn, 1) := by decide +kernel
theorem dX8_isBreach_70 : decode cX8_isBreach 70 = .ok (.iinc 4 1, 3) := by decide +kernel
theorem dX8_isBreach_73 : decode cX8_isBreach 73 = .ok (.goto (-58), 3) := by decide +kernel
theorem dX8_isBreach_76 : decode cX8_isBreach 76 = .ok (.iinc 3 1, 3) := by decide +kernel
theorem dX8_isBreach_79 : decode cX8_isBreach 79 = .ok (.goto (-77), 3) := by decide +kernel
theorem dX8_isBreach_82 : decode cX8_isBreach 82 = .ok (.iconst 0, 1) := by decide +kernel
theorem dX8_isBreach_83 : decode cX8_isBreach 83 = .ok (.ireturn, 1) := by decide +kernel
theorem dX8_breachesOf_0 : decode cX8_breachesOf 0 = .ok (.iconst 0, 1) := by decide +kernel
theorem dX8_breachesOf_1 : decode cX8_breachesOf 1 = .ok (.istore_n 2, 1) := by decide +kernel
theorem dX8_breachesOf_2 : decode cX8_breachesOf 2 = .ok (.iconst 0, 1) := by decide +kernel
theorem dX8_breachesOf_3 : decode cX8_breachesOf 3 = .ok (.istore_n 3, 1) := by decide +kernel
theorem dX8_breachesOf_4 : decode cX8_breachesOf 4 = .ok (.iload_n 3, 1) := by decide +kernel
theorem dX8_breachesOf_5 : decode cX8_breachesOf 5 = .ok (.aload_n 0, 1) := by decide +kernel
theorem dX8_breachesOf_6 : decode cX8_breachesOf 6 = .ok (.getfield 120, 3) := by decide +kernel
theorem dX8_breachesOf_9 : decode cX8_breachesOf 9 = .ok (.if_icmp .ge 47, 3) := by decide +kernel
theorem dX8_breachesOf_12 : decode cX8_breachesOf 12 = .ok (.iload_n 3, 1) := by decide +kernel
theorem dX8_breachesOf_13 : decode cX8_breachesOf 13 = .ok (.iconst 1, 1) := by decide +kernel
theorem dX8_breachesOf_14 : decode cX8_breachesOf 14 = .ok (.iadd, 1) := by decide +kernel
theorem dX8_breachesOf_15 : decode cX8_breachesOf 15 = .ok (.istore 4, 2) := by decide +kernel
theorem dX8_breachesOf_17 : decode cX8_breachesOf 17 = .ok (.iload 4, 2) := by decide +kernel
theorem dX8_breachesOf_19 : decode cX8_breachesOf 19 = .ok (.aload_n 0, 1) := by decide +kernel
theorem dX8_breachesOf_20 : decode cX8_breachesOf 20 = .ok (.getfield 120, 3) := by decide +kernel
theorem dX8_breachesOf_23 : decode cX8_breachesOf 23 = .ok (.if_icmp .ge 27, 3) := by decide +kernel
theorem dX8_breachesOf_26 : decode cX8_breachesOf 26 = .ok (.aload_n 0, 1) := by decide +kernel
theorem dX8_breachesOf_27 : decode cX8_breachesOf 27 = .ok (.aload_n 1, 1) := by decide +kernel
theorem dX8_breachesOf_28 : decode cX8_breachesOf 28 = .ok (.iload_n 3, 1) := by decide +kernel
theorem dX8_breachesOf_29 : decode cX8_breachesOf 29 = .ok (.iaload, 1) := by decide +kernel
theorem dX8_breachesOf_30 : decode cX8_breachesOf 30 = .ok (.aload_n 1, 1) := by decide +kernel
theorem dX8_breachesOf_31 : decode cX8_breachesOf 31 = .ok (.iload 4, 2) := by decide +kernel
theorem dX8_breachesOf_33 : decode cX8_breachesOf 33 = .ok (.iaload, 1) := by decide +kernel
theorem dX8_breachesOf_34 : decode cX8_breachesOf 34 = .ok (.invokevirtual 139, 3) := by decide +kernel
theorem dX8_breachesOf_37 : decode cX8_breachesOf 37 = .ok (.ifCond .eq 7, 3) := by decide +kernel
theorem dX8_breachesOf_40 : decode cX8_breachesOf 40 = .ok (.iload_n 2, 1) := by decide +kernel
theorem dX8_breachesOf_41 : decode cX8_breachesOf 41 = .ok (.iconst 1, 1) := by decide +kernel
theorem dX8_breachesOf_42 : decode cX8_breachesOf 42 = .ok (.iadd, 1) := by decide +kernel
theorem dX8_breachesOf_43 : decode cX8_breachesOf 43 = .ok (.istore_n 2, 1) := by decide +kernel
theorem dX8_breachesOf_44 : decode cX8_breachesOf 44 = .ok (.iinc 4 1, 3) := by decide +kernel
theorem dX8_breachesOf_47 : decode cX8_breachesOf 47 = .ok (.goto (-30), 3) := by decide +kernel
theorem dX8_breachesOf_50 : decode cX8_breachesOf 50 = .ok (.iinc 3 1, 3) := by decide +kernel
theorem dX8_breachesOf_53 : decode cX8_breachesOf 53 = .ok (.goto (-49), 3) := by decide +kernel
theorem dX8_breachesOf_56 : decode cX8_breachesOf 56 = .ok (.iload_n 2, 1) := by decide +kernel
theorem dX8_breachesOf_57 : decode cX8_breachesOf 57 = .ok (.ireturn, 1) := by decide +kernel
theorem dX8_goesOn_0 : decode cX8_goesOn 0 = .ok (.aload_n 0, 1) := by decide +kernel
theorem dX8_goesOn_1 : decode cX8_goesOn 1 = .ok (.getfield 120, 3) := by decide +kernel
theorem dX8_goesOn_4 : decode cX8_goesOn 4 = .ok (.iconst 2, 1) := by decide +kernel
theorem dX8_goesOn_5 : decode cX8_goesOn 5 = .ok (.isub, 1) := by decide +kernel
theorem dX8_goesOn_6 : decode cX8_goesOn 6 = .ok (.istore_n 1, 1) := by decide +kernel
theorem dX8_goesOn_7 : decode cX8_goesOn 7 = .ok (.iload_n 1, 1) := by decide +kernel
theorem dX8_goesOn_8 : decode cX8_goesOn 8 = .ok (.ifCond .lt 27, 3) := by decide +kernel
theorem dX8_goesOn_11 : decode cX8_goesOn 11 = .ok (.aload_n 0, 1) := by decide +kernel
theorem dX8_goesOn_12 : decode cX8_goesOn 12 = .ok (.getfield 63, 3) := by decide +kernel
theorem dX8_goesOn_15 : decode cX8_goesOn 15 = .ok (.iload_n 1, 1) := by decide +kernel
theorem dX8_goesOn_16 : decode cX8_goesOn 16 = .ok (.iaload, 1) := by decide +kernel
theorem dX8_goesOn_17 : decode cX8_goesOn 17 = .ok (.aload_n 0, 1) := by decide +kernel
theorem dX8_goesOn_18 : decode cX8_goesOn 18 = .ok (.getfield 63, 3) := by decide +kernel
theorem dX8_goesOn_21 : decode cX8_goesOn 21 = .ok (.iload_n 1, 1) := by decide +kernel
theorem dX8_goesOn_22 : decode cX8_goesOn 22 = .ok (.iconst 1, 1) := by decide +kernel
theorem dX8_goesOn_23 : decode cX8_goesOn 23 = .ok (.iadd, 1) := by decide +kernel
theorem dX8_goesOn_24 : decode cX8_goesOn 24 = .ok (.iaload, 1) := by decide +kernel
theorem dX8_goesOn_25 : decode cX8_goesOn 25 = .ok (.if_icmp .le 10, 3) := by decide +kernel
theorem dX8_goesOn_28 : decode cX8_goesOn 28 = .ok (.iload_n 1, 1) := by decide +kernel
theorem dX8_goesOn_29 : decode cX8_goesOn 29 = .ok (.iconst 1, 1) := by decide +kernel
theorem dX8_goesOn_30 : decode cX8_goesOn 30 = .ok (.isub, 1) := by decide +kernel
theorem dX8_goesOn_31 : decode cX8_goesOn 31 = .ok (.istore_n 1, 1) := by decide +kernel
theorem dX8_goesOn_32 : decode cX8_goesOn 32 = .ok (.goto (-25), 3) := by decide +kernel
theorem dX8_goesOn_35 : decode cX8_goesOn 35 = .ok (.iload_n 1, 1) := by decide +kernel
theorem dX8_goesOn_36 : decode cX8_goesOn 36 = .ok (.ifCond .ge 5, 3) := by decide +kernel
theorem dX8_goesOn_39 : decode cX8_goesOn 39 = .ok (.iconst 0, 1) := by decide +kernel
theorem dX8_goesOn_40 : decode cX8_goesOn 40 = .ok (.ireturn, 1) := by decide +kernel
theorem dX8_goesOn_41 : decode cX8_goesOn 41 = .ok (.aload_n 0, 1) := by decide +kernel
theorem dX8_goesOn_42 : decode cX8_goesOn 42 = .ok (.getfield 120, 3) := by decide +kernel
theorem dX8_goesOn_45 : decode cX8_goesOn 45 = .ok (.iconst 1, 1) := by decide +kernel
theorem dX8_goesOn_46 : decode cX8_goesOn 46 = .ok (.isub, 1) := by decide +kernel
theorem dX8_goesOn_47 : decode cX8_goesOn 47 = .ok (.istore_n 2, 1) := by decide +kernel
theorem dX8_goesOn_48 : decode cX8_goesOn 48 = .ok (.aload_n 0, 1) := by decide +kernel
theorem dX8_goesOn_49 : decode cX8_goesOn 49 = .ok (.getfield 63, 3) := by decide +kernel
theorem dX8_goesOn_52 : decode cX8_goesOn 52 = .ok (.iload_n 2, 1) := by decide +kernel
theorem dX8_goesOn_53 : decode cX8_goesOn 53 = .ok (.iaload, 1) := by decide +kernel
theorem dX8_goesOn_54 : decode cX8_goesOn 54 = .ok (.aload_n 0, 1) := by decide +kernel
theorem dX8_goesOn_55 : decode cX8_goesOn 55 = .ok (.getfield 63, 3) := by decide +kernel
theorem dX8_goesOn_58 : decode cX8_goesOn 58 = .ok (.iload_n 1, 1) := by decide +kernel
theorem dX8_goesOn_59 : decode cX8_goesOn 59 = .ok (.iaload, 1) := by decide +kernel
theorem dX8_goesOn_60 : decode cX8_goesOn 60 = .ok (.if_icmp .ge 10, 3) := by decide +kernel
theorem dX8_goesOn_63 : decode cX8_goesOn 63 = .ok (.iload_n 2, 1) := by decide +kernel
theorem dX8_goesOn_64 : decode cX8_goesOn 64 = .ok (.iconst 1, 1) := by decide +kernel
theorem dX8_goesOn_65 : decode cX8_goesOn 65 = .ok (.isub, 1) := by decide +kernel
theorem dX8_goesOn_66 : decode cX8_goesOn 66 = .ok (.istore_n 2, 1) := by decide +kernel
theorem dX8_goesOn_67 : decode cX8_goesOn 67 = .ok (.goto (-19), 3) := by decide +kernel
theorem dX8_goesOn_70 : decode cX8_goesOn 70 = .ok (.aload_n 0, 1) := by decide +kernel
theorem dX8_goesOn_71 : decode cX8_goesOn 71 = .ok (.iload_n 1, 1) := by decide +kernel
theorem dX8_goesOn_72 : decode cX8_goesOn 72 = .ok (.iload_n 2, 1) := by decide +kernel
theorem dX8_goesOn_73 : decode cX8_goesOn 73 = .ok (.invokevirtual 143, 3) := by decide +kernel
theorem dX8_goesOn_76 : decode cX8_goesOn 76 = .ok (.aload_n 0, 1) := by decide +kernel
theorem dX8_goesOn_77 : decode cX8_goesOn 77 = .ok (.getfield 120, 3) := by decide +kernel
theorem dX8_goesOn_80 : decode cX8_goesOn 80 = .ok (.iconst 1, 1) := by decide +kernel
theorem dX8_goesOn_81 : decode cX8_goesOn 81 = .ok (.isub, 1) := by decide +kernel
theorem dX8_goesOn_82 : decode cX8_goesOn 82 = .ok (.istore_n 3, 1) := by decide +kernel
theorem dX8_goesOn_83 : decode cX8_goesOn 83 = .ok (.iload_n 1, 1) := by decide +kernel
theorem dX8_goesOn_84 : decode cX8_goesOn 84 = .ok (.iconst 1, 1) := by decide +kernel
theorem dX8_goesOn_85 : decode cX8_goesOn 85 = .ok (.iadd, 1) := by decide +kernel
theorem dX8_goesOn_86 : decode cX8_goesOn 86 = .ok (.istore 4, 2) := by decide +kernel
theorem dX8_goesOn_88 : decode cX8_goesOn 88 = .ok (.iload 4, 2) := by decide +kernel
theorem dX8_goesOn_90 : decode cX8_goesOn 90 = .ok (.iload_n 3, 1) := by decide +kernel
theorem dX8_goesOn_91 : decode cX8_goesOn 91 = .ok (.if_icmp .ge 20, 3) := by decide +kernel
theorem dX8_goesOn_94 : decode cX8_goesOn 94 = .ok (.aload_n 0, 1) := by decide +kernel
theorem dX8_goesOn_95 : decode cX8_goesOn 95 = .ok (.iload 4, 2) := by decide +kernel
theorem dX8_goesOn_97 : decode cX8_goesOn 97 = .ok (.iload_n 3, 1) := by decide +kernel
theorem dX8_goesOn_98 : decode cX8_goesOn 98 = .ok (.invokevirtual 143, 3) := by decide +kernel
theorem dX8_goesOn_101 : decode cX8_goesOn 101 = .ok (.iload_n 3, 1) := by decide +kernel
theorem dX8_goesOn_102 : decode cX8_goesOn 102 = .ok (.iconst 1, 1) := by decide +kernel
theorem dX8_goesOn_103 : decode cX8_goesOn 103 = .ok (.isub, 1) := by decide +kernel
theorem dX8_goesOn_104 : decode cX8_goesOn 104 = .ok (.istore_n 3, 1) := by decide +kernel
theorem dX8_goesOn_105 : decode cX8_goesOn 105 = .ok (.iinc 4 1, 3) := by decide +kernel
theorem dX8_goesOn_108 : decode cX8_goesOn 108 = .ok (.goto (-20), 3) := by decide +kernel
theorem dX8_goesOn_111 : decode cX8_goesOn 111 = .ok (.iconst 1, 1) := by decide +kernel
theorem dX8_goesOn_112 : decode cX8_goesOn 112 = .ok (.ireturn, 1) := by decide +kernel
theorem dX8_swap_0 : decode cX8_swap 0 = .ok (.aload_n 0, 1) := by decide +kernel
theorem dX8_swap_1 : decode cX8_swap 1 = .ok (.getfield 63, 3) := by decide +kernel
theorem dX8_swap_4 : decode cX8_swap 4 = .ok (.iload_n 1, 1) := by decide +kernel
theorem dX8_swap_5 : decode cX8_swap 5 = .ok (.iaload, 1) := by decide +kernel
theorem dX8_swap_6 : decode cX8_swap 6 = .ok (.istore_n 3, 1) := by decide +kernel
theorem dX8_swap_7 : decode cX8_swap 7 = .ok (.aload_n 0, 1) := by decide +kernel
theorem dX8_swap_8 : decode cX8_swap 8 = .ok (.getfield 63, 3) := by decide +kernel
theorem dX8_swap_11 : decode cX8_swap 11 = .ok (.iload_n 1, 1) := by decide +kernel
theorem dX8_swap_12 : decode cX8_swap 12 = .ok (.aload_n 0, 1) := by decide +kernel
theorem dX8_swap_13 : decode cX8_swap 13 = .ok (.getfield 63, 3) := by decide +kernel
theorem dX8_swap_16 : decode cX8_swap 16 = .ok (.iload_n 2, 1) := by decide +kernel
theorem dX8_swap_17 : decode cX8_swap 17 = .ok (.iaload, 1) := by decide +kernel
theorem dX8_swap_18 : decode cX8_swap 18 = .ok (.iastore, 1) := by decide +kernel
theorem dX8_swap_19 : decode cX8_swap 19 = .ok (.aload_n 0, 1) := by decide +kernel
theorem dX8_swap_20 : decode cX8_swap 20 = .ok (.getfield 63, 3) := by decide +kernel
theorem dX8_swap_23 : decode cX8_swap 23 = .ok (.iload_n 2, 1) := by decide +kernel
theorem dX8_swap_24 : decode cX8_swap 24 = .ok (.iload_n 3, 1) := by decide +kernel
theorem dX8_swap_25 : decode cX8_swap 25 = .ok (.iastore, 1) := by decide +kernel
theorem dX8_swap_26 : decode cX8_swap 26 = .ok (.return_, 1) := by decide +kernel
theorem dX8_findColumns_0 : decode cX8_findColumns 0 = .ok (.iconst 0, 1) := by decide +kernel
theorem dX8_findColumns_1 : decode cX8_findColumns 1 = .ok (.istore_n 1, 1) := by decide +kernel
theorem dX8_findColumns_2 : decode cX8_findColumns 2 = .ok (.iload_n 1, 1) := by decide +kernel
theorem dX8_findColumns_3 : decode cX8_findColumns 3 = .ok (.aload_n 0, 1) := by decide +kernel
theorem dX8_findColumns_4 : decode cX8_findColumns 4 = .ok (.getfield 120, 3) := by decide +kernel
theorem dX8_findColumns_7 : decode cX8_findColumns 7 = .ok (.if_icmp .ge 16, 3) := by decide +kernel
theorem dX8_findColumns_10 : decode cX8_findColumns 10 = .ok (.aload_n 0, 1) := by decide +kernel
theorem dX8_findColumns_11 : decode cX8_findColumns 11 = .ok (.getfield 63, 3) := by decide +kernel
theorem dX8_findColumns_14 : decode cX8_findColumns 14 = .ok (.iload_n 1, 1) := by decide +kernel
theorem dX8_findColumns_15 : decode cX8_findColumns 15 = .ok (.iload_n 1, 1) := by decide +kernel
theorem dX8_findColumns_16 : decode cX8_findColumns 16 = .ok (.iastore, 1) := by decide +kernel
theorem dX8_findColumns_17 : decode cX8_findColumns 17 = .ok (.iinc 1 1, 3) := by decide +kernel
theorem dX8_findColumns_20 : decode cX8_findColumns 20 = .ok (.goto (-18), 3) := by decide +kernel
theorem dX8_findColumns_23 : decode cX8_findColumns 23 = .ok (.sipush 1000, 3) := by decide +kernel
theorem dX8_findColumns_26 : decode cX8_findColumns 26 = .ok (.istore_n 1, 1) := by decide +kernel
theorem dX8_findColumns_27 : decode cX8_findColumns 27 = .ok (.iconst 1, 1) := by decide +kernel
theorem dX8_findColumns_28 : decode cX8_findColumns 28 = .ok (.istore_n 2, 1) := by decide +kernel
theorem dX8_findColumns_29 : decode cX8_findColumns 29 = .ok (.iload_n 2, 1) := by decide +kernel
theorem dX8_findColumns_30 : decode cX8_findColumns 30 = .ok (.ifCond .eq 59, 3) := by decide +kernel
theorem dX8_findColumns_33 : decode cX8_findColumns 33 = .ok (.aload_n 0, 1) := by decide +kernel
theorem dX8_findColumns_34 : decode cX8_findColumns 34 = .ok (.aload_n 0, 1) := by decide +kernel
theorem dX8_findColumns_35 : decode cX8_findColumns 35 = .ok (.getfield 63, 3) := by decide +kernel
theorem dX8_findColumns_38 : decode cX8_findColumns 38 = .ok (.invokevirtual 147, 3) := by decide +kernel
theorem dX8_findColumns_41 : decode cX8_findColumns 41 = .ok (.istore_n 3, 1) := by decide +kernel
theorem dX8_findColumns_42 : decode cX8_findColumns 42 = .ok (.iload_n 3, 1) := by decide +kernel
theorem dX8_findColumns_43 : decode cX8_findColumns 43 = .ok (.iload_n 1, 1) := by decide +kernel
theorem dX8_findColumns_44 : decode cX8_findColumns 44 = .ok (.if_icmp .ge 37, 3) := by decide +kernel
theorem dX8_findColumns_47 : decode cX8_findColumns 47 = .ok (.iload_n 3, 1) := by decide +kernel
theorem dX8_findColumns_48 : decode cX8_findColumns 48 = .ok (.istore_n 1, 1) := by decide +kernel
theorem dX8_findColumns_49 : decode cX8_findColumns 49 = .ok (.iconst 0, 1) := by decide +kernel
theorem dX8_findColumns_50 : decode cX8_findColumns 50 = .ok (.istore 4, 2) := by decide +kernel
theorem dX8_findColumns_52 : decode cX8_findColumns 52 = .ok (.iload 4, 2) := by decide +kernel
theorem dX8_findColumns_54 : decode cX8_findColumns 54 = .ok (.aload_n 0, 1) := by decide +kernel
theorem dX8_findColumns_55 : decode cX8_findColumns 55 = .ok (.getfield 120, 3) := by decide +kernel
theorem dX8_findColumns_58 : decode cX8_findColumns 58 = .ok (.if_icmp .ge 23, 3) := by decide +kernel
theorem dX8_findColumns_61 : decode cX8_findColumns 61 = .ok (.aload_n 0, 1) := by decide +kernel
theorem dX8_findColumns_62 : decode cX8_findColumns 62 = .ok (.getfield 53, 3) := by decide +kernel
theorem dX8_findColumns_65 : decode cX8_findColumns 65 = .ok (.iload 4, 2) := by decide +kernel
theorem dX8_findColumns_67 : decode cX8_findColumns 67 = .ok (.aload_n 0, 1) := by decide +kernel
theorem dX8_findColumns_68 : decode cX8_findColumns 68 = .ok (.getfield 63, 3) := by decide +kernel
theorem dX8_findColumns_71 : decode cX8_findColumns 71 = .ok (.iload 4, 2) := by decide +kernel
theorem dX8_findColumns_73 : decode cX8_findColumns 73 = .ok (.iaload, 1) := by decide +kernel
theorem dX8_findColumns_74 : decode cX8_findColumns 74 = .ok (.iastore, 1) := by decide +kernel
theorem dX8_findColumns_75 : decode cX8_findColumns 75 = .ok (.iinc 4 1, 3) := by decide +kernel
theorem dX8_findColumns_78 : decode cX8_findColumns 78 = .ok (.goto (-26), 3) := by decide +kernel
theorem dX8_findColumns_81 : decode cX8_findColumns 81 = .ok (.aload_n 0, 1) := by decide +kernel
theorem dX8_findColumns_82 : decode cX8_findColumns 82 = .ok (.invokevirtual 151, 3) := by decide +kernel
theorem dX8_findColumns_85 : decode cX8_findColumns 85 = .ok (.istore_n 2, 1) := by decide +kernel
theorem dX8_findColumns_86 : decode cX8_findColumns 86 = .ok (.goto (-57), 3) := by decide +kernel
theorem dX8_findColumns_89 : decode cX8_findColumns 89 = .ok (.return_, 1) := by decide +kernel
theorem dX8_first_0 : decode cX8_first 0 = .ok (.aload_n 0, 1) := by decide +kernel
theorem dX8_first_1 : decode cX8_first 1 = .ok (.getfield 50, 3) := by decide +kernel
theorem dX8_first_4 : decode cX8_first 4 = .ok (.bipush 7, 2) := by decide +kernel
theorem dX8_first_6 : decode cX8_first 6 = .ok (.iload_n 1, 1) := by decide +kernel
theorem dX8_first_7 : decode cX8_first 7 = .ok (.imul, 1) := by decide +kernel
theorem dX8_first_8 : decode cX8_first 8 = .ok (.iaload, 1) := by decide +kernel
theorem dX8_first_9 : decode cX8_first 9 = .ok (.ireturn, 1) := by decide +kernel
theorem dX8_last_0 : decode cX8_last 0 = .ok (.aload_n 0, 1) := by decide +kernel
theorem dX8_last_1 : decode cX8_last 1 = .ok (.getfield 50, 3) := by decide +kernel
theorem dX8_last_4 : decode cX8_last 4 = .ok (.bipush 7, 2) := by decide +kernel
theorem dX8_last_6 : decode cX8_last 6 = .ok (.iload_n 1, 1) := by decide +kernel
theorem dX8_last_7 : decode cX8_last 7 = .ok (.imul, 1) := by decide +kernel
theorem dX8_last_8 : decode cX8_last 8 = .ok (.aload_n 0, 1) := by decide +kernel
theorem dX8_last_9 : decode cX8_last 9 = .ok (.getfield 38, 3) := by decide +kernel
theorem dX8_last_12 : decode cX8_last 12 = .ok (.iload_n 1, 1) := by decide +kernel
theorem dX8_last_13 : decode cX8_last 13 = .ok (.iaload, 1) := by decide +kernel
theorem dX8_last_14 : decode cX8_last 14 = .ok (.iadd, 1) := by decide +kernel
theorem dX8_last_15 : decode cX8_last 15 = .ok (.iconst 1, 1) := by decide +kernel
theorem dX8_last_16 : decode cX8_last 16 = .ok (.isub, 1) := by decide +kernel
theorem dX8_last_17 : decode cX8_last 17 = .ok (.iaload, 1) := by decide +kernel
theorem dX8_last_18 : decode cX8_last 18 = .ok (.ireturn, 1) := by decide +kernel
theorem dX8_findLanes_0 : decode cX8_findLanes 0 = .ok (.iconst 0, 1) := by decide +kernel
theorem dX8_findLanes_1 : decode cX8_findLanes 1 = .ok (.istore_n 1, 1) := by decide +kernel
theorem dX8_findLanes_2 : decode cX8_findLanes 2 = .ok (.iload_n 1, 1) := by decide +kernel
theorem dX8_findLanes_3 : decode cX8_findLanes 3 = .ok (.aload_n 0, 1) := by decide +kernel
theorem dX8_findLanes_4 : decode cX8_findLanes 4 = .ok (.getfield 120, 3) := by decide +kernel
theorem dX8_findLanes_7 : decode cX8_findLanes 7 = .ok (.if_icmp .ge 16, 3) := by decide +kernel
theorem dX8_findLanes_10 : decode cX8_findLanes 10 = .ok (.aload_n 0, 1) := by decide +kernel
theorem dX8_findLanes_11 : decode cX8_findLanes 11 = .ok (.getfield 56, 3) := by decide +kernel
theorem dX8_findLanes_14 : decode cX8_findLanes 14 = .ok (.iload_n 1, 1) := by decide +kernel
theorem dX8_findLanes_15 : decode cX8_findLanes 15 = .ok (.iconst (-1), 1) := by decide +kernel
theorem dX8_findLanes_16 : decode cX8_findLanes 16 = .ok (.iastore, 1) := by decide +kernel
theorem dX8_findLanes_17 : decode cX8_findLanes 17 = .ok (.iinc 1 1, 3) := by decide +kernel
theorem dX8_findLanes_20 : decode cX8_findLanes 20 = .ok (.goto (-18), 3) := by decide +kernel
theorem dX8_findLanes_23 : decode cX8_findLanes 23 = .ok (.aload_n 0, 1) := by decide +kernel
theorem dX8_findLanes_24 : decode cX8_findLanes 24 = .ok (.iconst 0, 1) := by decide +kernel
theorem dX8_findLanes_25 : decode cX8_findLanes 25 = .ok (.putfield 155, 3) := by decide +kernel
theorem dX8_findLanes_28 : decode cX8_findLanes 28 = .ok (.iconst 0, 1) := by decide +kernel
theorem dX8_findLanes_29 : decode cX8_findLanes 29 = .ok (.istore_n 1, 1) := by decide +kernel
theorem dX8_findLanes_30 : decode cX8_findLanes 30 = .ok (.iload_n 1, 1) := by decide +kernel
theorem dX8_findLanes_31 : decode cX8_findLanes 31 = .ok (.aload_n 0, 1) := by decide +kernel
theorem dX8_findLanes_32 : decode cX8_findLanes 32 = .ok (.getfield 117, 3) := by decide +kernel
theorem dX8_findLanes_35 : decode cX8_findLanes 35 = .ok (.if_icmp .ge 77, 3) := by decide +kernel
theorem dX8_findLanes_38 : decode cX8_findLanes 38 = .ok (.iconst 0, 1) := by decide +kernel
theorem dX8_findLanes_39 : decode cX8_findLanes 39 = .ok (.istore_n 2, 1) := by decide +kernel
theorem dX8_findLanes_40 : decode cX8_findLanes 40 = .ok (.iload_n 2, 1) := by decide +kernel
theorem dX8_findLanes_41 : decode cX8_findLanes 41 = .ok (.aload_n 0, 1) := by decide +kernel
theorem dX8_findLanes_42 : decode cX8_findLanes 42 = .ok (.getfield 120, 3) := by decide +kernel
theorem dX8_findLanes_45 : decode cX8_findLanes 45 = .ok (.if_icmp .ge 61, 3) := by decide +kernel
theorem dX8_findLanes_48 : decode cX8_findLanes 48 = .ok (.aload_n 0, 1) := by decide +kernel
theorem dX8_findLanes_49 : decode cX8_findLanes 49 = .ok (.iload_n 2, 1) := by decide +kernel
theorem dX8_findLanes_50 : decode cX8_findLanes 50 = .ok (.invokevirtual 158, 3) := by decide +kernel
theorem dX8_findLanes_53 : decode cX8_findLanes 53 = .ok (.iload_n 1, 1) := by decide +kernel
theorem dX8_findLanes_54 : decode cX8_findLanes 54 = .ok (.if_icmp .eq 6, 3) := by decide +kernel
theorem dX8_findLanes_57 : decode cX8_findLanes 57 = .ok (.goto 43, 3) := by decide +kernel
theorem dX8_findLanes_60 : decode cX8_findLanes 60 = .ok (.iconst 0, 1) := by decide +kernel
theorem dX8_findLanes_61 : decode cX8_findLanes 61 = .ok (.istore_n 3, 1) := by decide +kernel
theorem dX8_findLanes_62 : decode cX8_findLanes 62 = .ok (.aload_n 0, 1) := by decide +kernel
theorem dX8_findLanes_63 : decode cX8_findLanes 63 = .ok (.iload_n 3, 1) := by decide +kernel
theorem dX8_findLanes_64 : decode cX8_findLanes 64 = .ok (.iload_n 1, 1) := by decide +kernel
theorem dX8_findLanes_65 : decode cX8_findLanes 65 = .ok (.invokevirtual 161, 3) := by decide +kernel
theorem dX8_findLanes_68 : decode cX8_findLanes 68 = .ok (.ifCond .ne 10, 3) := by decide +kernel
theorem dX8_findLanes_71 : decode cX8_findLanes 71 = .ok (.iload_n 3, 1) := by decide +kernel
theorem dX8_findLanes_72 : decode cX8_findLanes 72 = .ok (.iconst 1, 1) := by decide +kernel
theorem dX8_findLanes_73 : decode cX8_findLanes 73 = .ok (.iadd, 1) := by decide +kernel
theorem dX8_findLanes_74 : decode cX8_findLanes 74 = .ok (.istore_n 3, 1) := by decide +kernel
theorem dX8_findLanes_75 : decode cX8_findLanes 75 = .ok (.goto (-13), 3) := by decide +kernel
theorem dX8_findLanes_78 : decode cX8_findLanes 78 = .ok (.aload_n 0, 1) := by decide +kernel
theorem dX8_findLanes_79 : decode cX8_findLanes 79 = .ok (.getfield 56, 3) := by decide +kernel
theorem dX8_findLanes_82 : decode cX8_findLanes 82 = .ok (.iload_n 2, 1) := by decide +kernel
theorem dX8_findLanes_83 : decode cX8_findLanes 83 = .ok (.iload_n 3, 1) := by decide +kernel
theorem dX8_findLanes_84 : decode cX8_findLanes 84 = .ok (.iastore, 1) := by decide +kernel
theorem dX8_findLanes_85 : decode cX8_findLanes 85 = .ok (.iload_n 3, 1) := by decide +kernel
theorem dX8_findLanes_86 : decode cX8_findLanes 86 = .ok (.aload_n 0, 1) := by decide +kernel
theorem dX8_findLanes_87 : decode cX8_findLanes 87 = .ok (.getfield 155, 3) := by decide +kernel
theorem dX8_findLanes_90 : decode cX8_findLanes 90 = .ok (.if_icmp .lt 10, 3) := by decide +kernel
theorem dX8_findLanes_93 : decode cX8_findLanes 93 = .ok (.aload_n 0, 1) := by decide +kernel
theorem dX8_findLanes_94 : decode cX8_findLanes 94 = .ok (.iload_n 3, 1) := by decide +kernel
theorem dX8_findLanes_95 : decode cX8_findLanes 95 = .ok (.iconst 1, 1) := by decide +kernel
theorem dX8_findLanes_96 : decode cX8_findLanes 96 = .ok (.iadd, 1) := by decide +kernel
theorem dX8_findLanes_97 : decode cX8_findLanes 97 = .ok (.putfield 155, 3) := by decide +kernel
theorem dX8_findLanes_100 : decode cX8_findLanes 100 = .ok (.iinc 2 1, 3) := by decide +kernel
theorem dX8_findLanes_103 : decode cX8_findLanes 103 = .ok (.goto (-63), 3) := by decide +kernel
theorem dX8_findLanes_106 : decode cX8_findLanes 106 = .ok (.iinc 1 1, 3) := by decide +kernel
theorem dX8_findLanes_109 : decode cX8_findLanes 109 = .ok (.goto (-79), 3) := by decide +kernel
theorem dX8_findLanes_112 : decode cX8_findLanes 112 = .ok (.return_, 1) := by decide +kernel
theorem dX8_isFree_0 : decode cX8_isFree 0 = .ok (.iconst 0, 1) := by decide +kernel
theorem dX8_isFree_1 : decode cX8_isFree 1 = .ok (.istore_n 3, 1) := by decide +kernel
theorem dX8_isFree_2 : decode cX8_isFree 2 = .ok (.iload_n 3, 1) := by decide +kernel
theorem dX8_isFree_3 : decode cX8_isFree 3 = .ok (.aload_n 0, 1) := by decide +kernel
theorem dX8_isFree_4 : decode cX8_isFree 4 = .ok (.getfield 120, 3) := by decide +kernel
theorem dX8_isFree_7 : decode cX8_isFree 7 = .ok (.if_icmp .ge 30, 3) := by decide +kernel
theorem dX8_isFree_10 : decode cX8_isFree 10 = .ok (.aload_n 0, 1) := by decide +kernel
theorem dX8_isFree_11 : decode cX8_isFree 11 = .ok (.getfield 56, 3) := by decide +kernel
theorem dX8_isFree_14 : decode cX8_isFree 14 = .ok (.iload_n 3, 1) := by decide +kernel
theorem dX8_isFree_15 : decode cX8_isFree 15 = .ok (.iaload, 1) := by decide +kernel
theorem dX8_isFree_16 : decode cX8_isFree 16 = .ok (.iload_n 1, 1) := by decide +kernel
theorem dX8_isFree_17 : decode cX8_isFree 17 = .ok (.if_icmp .ne 14, 3) := by decide +kernel
theorem dX8_isFree_20 : decode cX8_isFree 20 = .ok (.aload_n 0, 1) := by decide +kernel
theorem dX8_isFree_21 : decode cX8_isFree 21 = .ok (.iload_n 3, 1) := by decide +kernel
theorem dX8_isFree_22 : decode cX8_isFree 22 = .ok (.invokevirtual 164, 3) := by decide +kernel
theorem dX8_isFree_25 : decode cX8_isFree 25 = .ok (.iload_n 2, 1) := by decide +kernel
theorem dX8_isFree_26 : decode cX8_isFree 26 = .ok (.if_icmp .lt 5, 3) := by decide +kernel
theorem dX8_isFree_29 : decode cX8_isFree 29 = .ok (.iconst 0, 1) := by decide +kernel
theorem dX8_isFree_30 : decode cX8_isFree 30 = .ok (.ireturn, 1) := by decide +kernel
theorem dX8_isFree_31 : decode cX8_isFree 31 = .ok (.iinc 3 1, 3) := by decide +kernel
theorem dX8_isFree_34 : decode cX8_isFree 34 = .ok (.goto (-32), 3) := by decide +kernel
theorem dX8_isFree_37 : decode cX8_isFree 37 = .ok (.iconst 1, 1) := by decide +kernel
theorem dX8_isFree_38 : decode cX8_isFree 38 = .ok (.ireturn, 1) := by decide +kernel
theorem dX8_table_0 : decode cX8_table 0 = .ok (.aload_n 0, 1) := by decide +kernel
theorem dX8_table_1 : decode cX8_table 1 = .ok (.iconst 0, 1) := by decide +kernel
theorem dX8_table_2 : decode cX8_table 2 = .ok (.putfield 94, 3) := by decide +kernel
theorem dX8_table_5 : decode cX8_table 5 = .ok (.iload_n 1, 1) := by decide +kernel
theorem dX8_table_6 : decode cX8_table 6 = .ok (.iconst 1, 1) := by decide +kernel
theorem dX8_table_7 : decode cX8_table 7 = .ok (.if_icmp .lt 23, 3) := by decide +kernel
theorem dX8_table_10 : decode cX8_table 10 = .ok (.iload_n 1, 1) := by decide +kernel
theorem dX8_table_11 : decode cX8_table 11 = .ok (.iconst 1, 1) := by decide +kernel
theorem dX8_table_12 : decode cX8_table 12 = .ok (.aload_n 0, 1) := by decide +kernel
theorem dX8_table_13 : decode cX8_table 13 = .ok (.getfield 97, 3) := by decide +kernel
theorem dX8_table_16 : decode cX8_table 16 = .ok (.ishl, 1) := by decide +kernel
theorem dX8_table_17 : decode cX8_table 17 = .ok (.if_icmp .ge 13, 3) := by decide +kernel
theorem dX8_table_20 : decode cX8_table 20 = .ok (.aload_n 0, 1) := by decide +kernel
theorem dX8_table_21 : decode cX8_table 21 = .ok (.iload_n 1, 1) := by decide +kernel
theorem dX8_table_22 : decode cX8_table 22 = .ok (.invokevirtual 123, 3) := by decide +kernel
theorem dX8_table_25 : decode cX8_table 25 = .ok (.bipush 6, 2) := by decide +kernel
theorem dX8_table_27 : decode cX8_table 27 = .ok (.if_icmp .le 5, 3) := by decide +kernel
theorem dX8_table_30 : decode cX8_table 30 = .ok (.iconst (-1), 1) := by decide +kernel
theorem dX8_table_31 : decode cX8_table 31 = .ok (.ireturn, 1) := by decide +kernel
theorem dX8_table_32 : decode cX8_table 32 = .ok (.iconst 0, 1) := by decide +kernel
theorem dX8_table_33 : decode cX8_table 33 = .ok (.istore_n 2, 1) := by decide +kernel
theorem dX8_table_34 : decode cX8_table 34 = .ok (.iload_n 2, 1) := by decide +kernel
theorem dX8_table_35 : decode cX8_table 35 = .ok (.aload_n 0, 1) := by decide +kernel
theorem dX8_table_36 : decode cX8_table 36 = .ok (.getfield 97, 3) := by decide +kernel
theorem dX8_table_39 : decode cX8_table 39 = .ok (.if_icmp .ge 30, 3) := by decide +kernel
theorem dX8_table_42 : decode cX8_table 42 = .ok (.iload_n 1, 1) := by decide +kernel
theorem dX8_table_43 : decode cX8_table 43 = .ok (.iload_n 2, 1) := by decide +kernel
theorem dX8_table_44 : decode cX8_table 44 = .ok (.ishr, 1) := by decide +kernel
theorem dX8_table_45 : decode cX8_table 45 = .ok (.iconst 1, 1) := by decide +kernel
theorem dX8_table_46 : decode cX8_table 46 = .ok (.iand, 1) := by decide +kernel
theorem dX8_table_47 : decode cX8_table 47 = .ok (.iconst 1, 1) := by decide +kernel
theorem dX8_table_48 : decode cX8_table 48 = .ok (.if_icmp .ne 15, 3) := by decide +kernel
theorem dX8_table_51 : decode cX8_table 51 = .ok (.aload_n 0, 1) := by decide +kernel
theorem dX8_table_52 : decode cX8_table 52 = .ok (.getfield 17, 3) := by decide +kernel
theorem dX8_table_55 : decode cX8_table 55 = .ok (.iload_n 2, 1) := by decide +kernel
theorem dX8_table_56 : decode cX8_table 56 = .ok (.iaload, 1) := by decide +kernel
theorem dX8_table_57 : decode cX8_table 57 = .ok (.iconst 2, 1) := by decide +kernel
theorem dX8_table_58 : decode cX8_table 58 = .ok (.if_icmp .ge 5, 3) := by decide +kernel
theorem dX8_table_61 : decode cX8_table 61 = .ok (.iconst (-1), 1) := by decide +kernel
theorem dX8_table_62 : decode cX8_table 62 = .ok (.ireturn, 1) := by decide +kernel
theorem dX8_table_63 : decode cX8_table 63 = .ok (.iinc 2 1, 3) := by decide +kernel
theorem dX8_table_66 : decode cX8_table 66 = .ok (.goto (-32), 3) := by decide +kernel
theorem dX8_table_69 : decode cX8_table 69 = .ok (.aload_n 0, 1) := by decide +kernel
theorem dX8_table_70 : decode cX8_table 70 = .ok (.iconst 0, 1) := by decide +kernel
theorem dX8_table_71 : decode cX8_table 71 = .ok (.putfield 120, 3) := by decide +kernel
theorem dX8_table_74 : decode cX8_table 74 = .ok (.iconst 0, 1) := by decide +kernel
theorem dX8_table_75 : decode cX8_table 75 = .ok (.istore_n 2, 1) := by decide +kernel
theorem dX8_table_76 : decode cX8_table 76 = .ok (.iload_n 2, 1) := by decide +kernel
theorem dX8_table_77 : decode cX8_table 77 = .ok (.aload_n 0, 1) := by decide +kernel
theorem dX8_table_78 : decode cX8_table 78 = .ok (.getfield 97, 3) := by decide +kernel
theorem dX8_table_81 : decode cX8_table 81 = .ok (.if_icmp .ge 148, 3) := by decide +kernel
theorem dX8_table_84 : decode cX8_table 84 = .ok (.iload_n 1, 1) := by decide +kernel
theorem dX8_table_85 : decode cX8_table 85 = .ok (.iload_n 2, 1) := by decide +kernel
theorem dX8_table_86 : decode cX8_table 86 = .ok (.ishr, 1) := by decide +kernel
theorem dX8_table_87 : decode cX8_table 87 = .ok (.iconst 1, 1) := by decide +kernel
theorem dX8_table_88 : decode cX8_table 88 = .ok (.iand, 1) := by decide +kernel
theorem dX8_table_89 : decode cX8_table 89 = .ok (.ifCond .ne 6, 3) := by decide +kernel
theorem dX8_table_92 : decode cX8_table 92 = .ok (.goto 131, 3) := by decide +kernel
theorem dX8_table_95 : decode cX8_table 95 = .ok (.aload_n 0, 1) := by decide +kernel
theorem dX8_table_96 : decode cX8_table 96 = .ok (.getfield 35, 3) := by decide +kernel
theorem dX8_table_99 : decode cX8_table 99 = .ok (.aload_n 0, 1) := by decide +kernel
theorem dX8_table_100 : decode cX8_table 100 = .ok (.getfield 120, 3) := by decide +kernel
theorem dX8_table_103 : decode cX8_table 103 = .ok (.iload_n 2, 1) := by decide +kernel
theorem dX8_table_104 : decode cX8_table 104 = .ok (.iastore, 1) := by decide +kernel
theorem dX8_table_105 : decode cX8_table 105 = .ok (.aload_n 0, 1) := by decide +kernel
theorem dX8_table_106 : decode cX8_table 106 = .ok (.getfield 38, 3) := by decide +kernel
theorem dX8_table_109 : decode cX8_table 109 = .ok (.aload_n 0, 1) := by decide +kernel
theorem dX8_table_110 : decode cX8_table 110 = .ok (.getfield 120, 3) := by decide +kernel
theorem dX8_table_113 : decode cX8_table 113 = .ok (.aload_n 0, 1) := by decide +kernel
theorem dX8_table_114 : decode cX8_table 114 = .ok (.getfield 17, 3) := by decide +kernel
theorem dX8_table_117 : decode cX8_table 117 = .ok (.iload_n 2, 1) := by decide +kernel
theorem dX8_table_118 : decode cX8_table 118 = .ok (.iaload, 1) := by decide +kernel
theorem dX8_table_119 : decode cX8_table 119 = .ok (.iastore, 1) := by decide +kernel
theorem dX8_table_120 : decode cX8_table 120 = .ok (.iconst 0, 1) := by decide +kernel
theorem dX8_table_121 : decode cX8_table 121 = .ok (.istore_n 3, 1) := by decide +kernel
theorem dX8_table_122 : decode cX8_table 122 = .ok (.iload_n 3, 1) := by decide +kernel
theorem dX8_table_123 : decode cX8_table 123 = .ok (.aload_n 0, 1) := by decide +kernel
theorem dX8_table_124 : decode cX8_table 124 = .ok (.getfield 17, 3) := by decide +kernel
theorem dX8_table_127 : decode cX8_table 127 = .ok (.iload_n 2, 1) := by decide +kernel
theorem dX8_table_128 : decode cX8_table 128 = .ok (.iaload, 1) := by decide +kernel
theorem dX8_table_129 : decode cX8_table 129 = .ok (.if_icmp .ge 84, 3) := by decide +kernel
theorem dX8_table_132 : decode cX8_table 132 = .ok (.aload_n 0, 1) := by decide +kernel
theorem dX8_table_133 : decode cX8_table 133 = .ok (.getfield 41, 3) := by decide +kernel
theorem dX8_table_136 : decode cX8_table 136 = .ok (.bipush 7, 2) := by decide +kernel
theorem dX8_table_138 : decode cX8_table 138 = .ok (.aload_n 0, 1) := by decide +kernel
theorem dX8_table_139 : decode cX8_table 139 = .ok (.getfield 120, 3) := by decide +kernel
theorem dX8_table_142 : decode cX8_table 142 = .ok (.imul, 1) := by decide +kernel
theorem dX8_table_143 : decode cX8_table 143 = .ok (.iload_n 3, 1) := by decide +kernel
theorem dX8_table_144 : decode cX8_table 144 = .ok (.iadd, 1) := by decide +kernel
theorem dX8_table_145 : decode cX8_table 145 = .ok (.aload_n 0, 1) := by decide +kernel
theorem dX8_table_146 : decode cX8_table 146 = .ok (.getfield 20, 3) := by decide +kernel
theorem dX8_table_149 : decode cX8_table 149 = .ok (.bipush 7, 2) := by decide +kernel
theorem dX8_table_151 : decode cX8_table 151 = .ok (.iload_n 2, 1) := by decide +kernel
theorem dX8_table_152 : decode cX8_table 152 = .ok (.imul, 1) := by decide +kernel
theorem dX8_table_153 : decode cX8_table 153 = .ok (.iload_n 3, 1) := by decide +kernel
theorem dX8_table_154 : decode cX8_table 154 = .ok (.iadd, 1) := by decide +kernel
theorem dX8_table_155 : decode cX8_table 155 = .ok (.iaload, 1) := by decide +kernel
theorem dX8_table_156 : decode cX8_table 156 = .ok (.iastore, 1) := by decide +kernel
theorem dX8_table_157 : decode cX8_table 157 = .ok (.aload_n 0, 1) := by decide +kernel
theorem dX8_table_158 : decode cX8_table 158 = .ok (.getfield 44, 3) := by decide +kernel
theorem dX8_table_161 : decode cX8_table 161 = .ok (.bipush 7, 2) := by decide +kernel
theorem dX8_table_163 : decode cX8_table 163 = .ok (.aload_n 0, 1) := by decide +kernel
theorem dX8_table_164 : decode cX8_table 164 = .ok (.getfield 120, 3) := by decide +kernel
theorem dX8_table_167 : decode cX8_table 167 = .ok (.imul, 1) := by decide +kernel
theorem dX8_table_168 : decode cX8_table 168 = .ok (.iload_n 3, 1) := by decide +kernel
theorem dX8_table_169 : decode cX8_table 169 = .ok (.iadd, 1) := by decide +kernel
theorem dX8_table_170 : decode cX8_table 170 = .ok (.aload_n 0, 1) := by decide +kernel
theorem dX8_table_171 : decode cX8_table 171 = .ok (.getfield 23, 3) := by decide +kernel
theorem dX8_table_174 : decode cX8_table 174 = .ok (.bipush 7, 2) := by decide +kernel
theorem dX8_table_176 : decode cX8_table 176 = .ok (.iload_n 2, 1) := by decide +kernel
theorem dX8_table_177 : decode cX8_table 177 = .ok (.imul, 1) := by decide +kernel
theorem dX8_table_178 : decode cX8_table 178 = .ok (.iload_n 3, 1) := by decide +kernel
theorem dX8_table_179 : decode cX8_table 179 = .ok (.iadd, 1) := by decide +kernel
theorem dX8_table_180 : decode cX8_table 180 = .ok (.iaload, 1) := by decide +kernel
theorem dX8_table_181 : decode cX8_table 181 = .ok (.iastore, 1) := by decide +kernel
theorem dX8_table_182 : decode cX8_table 182 = .ok (.aload_n 0, 1) := by decide +kernel
theorem dX8_table_183 : decode cX8_table 183 = .ok (.getfield 47, 3) := by decide +kernel
theorem dX8_table_186 : decode cX8_table 186 = .ok (.bipush 7, 2) := by decide +kernel
theorem dX8_table_188 : decode cX8_table 188 = .ok (.aload_n 0, 1) := by decide +kernel
theorem dX8_table_189 : decode cX8_table 189 = .ok (.getfield 120, 3) := by decide +kernel
theorem dX8_table_192 : decode cX8_table 192 = .ok (.imul, 1) := by decide +kernel
theorem dX8_table_193 : decode cX8_table 193 = .ok (.iload_n 3, 1) := by decide +kernel
theorem dX8_table_194 : decode cX8_table 194 = .ok (.iadd, 1) := by decide +kernel
theorem dX8_table_195 : decode cX8_table 195 = .ok (.aload_n 0, 1) := by decide +kernel
theorem dX8_table_196 : decode cX8_table 196 = .ok (.getfield 26, 3) := by decide +kernel
theorem dX8_table_199 : decode cX8_table 199 = .ok (.bipush 7, 2) := by decide +kernel
theorem dX8_table_201 : decode cX8_table 201 = .ok (.iload_n 2, 1) := by decide +kernel
theorem dX8_table_202 : decode cX8_table 202 = .ok (.imul, 1) := by decide +kernel
theorem dX8_table_203 : decode cX8_table 203 = .ok (.iload_n 3, 1) := by decide +kernel
theorem dX8_table_204 : decode cX8_table 204 = .ok (.iadd, 1) := by decide +kernel
theorem dX8_table_205 : decode cX8_table 205 = .ok (.iaload, 1) := by decide +kernel
theorem dX8_table_206 : decode cX8_table 206 = .ok (.iastore, 1) := by decide +kernel
theorem dX8_table_207 : decode cX8_table 207 = .ok (.iinc 3 1, 3) := by decide +kernel
theorem dX8_table_210 : decode cX8_table 210 = .ok (.goto (-88), 3) := by decide +kernel
theorem dX8_table_213 : decode cX8_table 213 = .ok (.aload_n 0, 1) := by decide +kernel
theorem dX8_table_214 : decode cX8_table 214 = .ok (.aload_n 0, 1) := by decide +kernel
theorem dX8_table_215 : decode cX8_table 215 = .ok (.getfield 120, 3) := by decide +kernel
theorem dX8_table_218 : decode cX8_table 218 = .ok (.iconst 1, 1) := by decide +kernel
theorem dX8_table_219 : decode cX8_table 219 = .ok (.iadd, 1) := by decide +kernel
theorem dX8_table_220 : decode cX8_table 220 = .ok (.putfield 120, 3) := by decide +kernel
theorem dX8_table_223 : decode cX8_table 223 = .ok (.iinc 2 1, 3) := by decide +kernel
theorem dX8_table_226 : decode cX8_table 226 = .ok (.goto (-150), 3) := by decide +kernel
theorem dX8_table_229 : decode cX8_table 229 = .ok (.aload_n 0, 1) := by decide +kernel
theorem dX8_table_230 : decode cX8_table 230 = .ok (.invokevirtual 167, 3) := by decide +kernel
theorem dX8_table_233 : decode cX8_table 233 = .ok (.aload_n 0, 1) := by decide +kernel
theorem dX8_table_234 : decode cX8_table 234 = .ok (.invokevirtual 170, 3) := by decide +kernel
theorem dX8_table_237 : decode cX8_table 237 = .ok (.aload_n 0, 1) := by decide +kernel
theorem dX8_table_238 : decode cX8_table 238 = .ok (.invokevirtual 173, 3) := by decide +kernel
theorem dX8_table_241 : decode cX8_table 241 = .ok (.aload_n 0, 1) := by decide +kernel
theorem dX8_table_242 : decode cX8_table 242 = .ok (.getfield 117, 3) := by decide +kernel
theorem dX8_table_245 : decode cX8_table 245 = .ok (.ireturn, 1) := by decide +kernel
theorem dX8_row_0 : decode cX8_row 0 = .ok (.aload_n 0, 1) := by decide +kernel
theorem dX8_row_1 : decode cX8_row 1 = .ok (.iconst 0, 1) := by decide +kernel
theorem dX8_row_2 : decode cX8_row 2 = .ok (.putfield 94, 3) := by decide +kernel
theorem dX8_row_5 : decode cX8_row 5 = .ok (.iload_n 1, 1) := by decide +kernel
theorem dX8_row_6 : decode cX8_row 6 = .ok (.ifCond .lt 20, 3) := by decide +kernel
theorem dX8_row_9 : decode cX8_row 9 = .ok (.iload_n 1, 1) := by decide +kernel
theorem dX8_row_10 : decode cX8_row 10 = .ok (.aload_n 0, 1) := by decide +kernel
theorem dX8_row_11 : decode cX8_row 11 = .ok (.getfield 117, 3) := by decide +kernel
theorem dX8_row_14 : decode cX8_row 14 = .ok (.if_icmp .ge 12, 3) := by decide +kernel
theorem dX8_row_17 : decode cX8_row 17 = .ok (.aload_n 0, 1) := by decide +kernel
theorem dX8_row_18 : decode cX8_row 18 = .ok (.getfield 32, 3) := by decide +kernel
theorem dX8_row_21 : decode cX8_row 21 = .ok (.iload_n 1, 1) := by decide +kernel
theorem dX8_row_22 : decode cX8_row 22 = .ok (.iaload, 1) := by decide +kernel
theorem dX8_row_23 : decode cX8_row 23 = .ok (.goto 4, 3) := by decide +kernel
theorem dX8_row_26 : decode cX8_row 26 = .ok (.iconst (-1), 1) := by decide +kernel
theorem dX8_row_27 : decode cX8_row 27 = .ok (.ireturn, 1) := by decide +kernel
theorem dX8_isColumn_0 : decode cX8_isColumn 0 = .ok (.iload_n 1, 1) := by decide +kernel
theorem dX8_isColumn_1 : decode cX8_isColumn 1 = .ok (.ifCond .lt 15, 3) := by decide +kernel
theorem dX8_isColumn_4 : decode cX8_isColumn 4 = .ok (.iload_n 1, 1) := by decide +kernel
theorem dX8_isColumn_5 : decode cX8_isColumn 5 = .ok (.aload_n 0, 1) := by decide +kernel
theorem dX8_isColumn_6 : decode cX8_isColumn 6 = .ok (.getfield 120, 3) := by decide +kernel
theorem dX8_isColumn_9 : decode cX8_isColumn 9 = .ok (.if_icmp .ge 7, 3) := by decide +kernel
theorem dX8_isColumn_12 : decode cX8_isColumn 12 = .ok (.iconst 1, 1) := by decide +kernel
theorem dX8_isColumn_13 : decode cX8_isColumn 13 = .ok (.goto 4, 3) := by decide +kernel
theorem dX8_isColumn_16 : decode cX8_isColumn 16 = .ok (.iconst 0, 1) := by decide +kernel
theorem dX8_isColumn_17 : decode cX8_isColumn 17 = .ok (.ireturn, 1) := by decide +kernel
theorem dX8_column_0 : decode cX8_column 0 = .ok (.aload_n 0, 1) := by decide +kernel
theorem dX8_column_1 : decode cX8_column 1 = .ok (.iconst 0, 1) := by decide +kernel
theorem dX8_column_2 : decode cX8_column 2 = .ok (.putfield 94, 3) := by decide +kernel
theorem dX8_column_5 : decode cX8_column 5 = .ok (.aload_n 0, 1) := by decide +kernel
theorem dX8_column_6 : decode cX8_column 6 = .ok (.iload_n 1, 1) := by decide +kernel
theorem dX8_column_7 : decode cX8_column 7 = .ok (.invokevirtual 176, 3) := by decide +kernel
theorem dX8_column_10 : decode cX8_column 10 = .ok (.ifCond .eq 17, 3) := by decide +kernel
theorem dX8_column_13 : decode cX8_column 13 = .ok (.aload_n 0, 1) := by decide +kernel
theorem dX8_column_14 : decode cX8_column 14 = .ok (.getfield 35, 3) := by decide +kernel
theorem dX8_column_17 : decode cX8_column 17 = .ok (.aload_n 0, 1) := by decide +kernel
theorem dX8_column_18 : decode cX8_column 18 = .ok (.getfield 53, 3) := by decide +kernel
theorem dX8_column_21 : decode cX8_column 21 = .ok (.iload_n 1, 1) := by decide +kernel
theorem dX8_column_22 : decode cX8_column 22 = .ok (.iaload, 1) := by decide +kernel
theorem dX8_column_23 : decode cX8_column 23 = .ok (.iaload, 1) := by decide +kernel
theorem dX8_column_24 : decode cX8_column 24 = .ok (.goto 4, 3) := by decide +kernel
theorem dX8_column_27 : decode cX8_column 27 = .ok (.iconst (-1), 1) := by decide +kernel
theorem dX8_column_28 : decode cX8_column 28 = .ok (.ireturn, 1) := by decide +kernel
theorem dX8_cell_0 : decode cX8_cell 0 = .ok (.aload_n 0, 1) := by decide +kernel
theorem dX8_cell_1 : decode cX8_cell 1 = .ok (.iconst 0, 1) := by decide +kernel
theorem dX8_cell_2 : decode cX8_cell 2 = .ok (.putfield 94, 3) := by decide +kernel
theorem dX8_cell_5 : decode cX8_cell 5 = .ok (.iload_n 1, 1) := by decide +kernel
theorem dX8_cell_6 : decode cX8_cell 6 = .ok (.ifCond .lt 28, 3) := by decide +kernel
theorem dX8_cell_9 : decode cX8_cell 9 = .ok (.iload_n 1, 1) := by decide +kernel
theorem dX8_cell_10 : decode cX8_cell 10 = .ok (.aload_n 0, 1) := by decide +kernel
theorem dX8_cell_11 : decode cX8_cell 11 = .ok (.getfield 117, 3) := by decide +kernel
theorem dX8_cell_14 : decode cX8_cell 14 = .ok (.if_icmp .ge 20, 3) := by decide +kernel
theorem dX8_cell_17 : decode cX8_cell 17 = .ok (.aload_n 0, 1) := by decide +kernel
theorem dX8_cell_18 : decode cX8_cell 18 = .ok (.iload_n 2, 1) := by decide +kernel
theorem dX8_cell_19 : decode cX8_cell 19 = .ok (.invokevirtual 176, 3) := by decide +kernel
theorem dX8_cell_22 : decode cX8_cell 22 = .ok (.ifCond .eq 12, 3) := by decide +kernel
theorem dX8_cell_25 : decode cX8_cell 25 = .ok (.iload_n 3, 1) := by decide +kernel
theorem dX8_cell_26 : decode cX8_cell 26 = .ok (.ifCond .lt 8, 3) := by decide +kernel
theorem dX8_cell_29 : decode cX8_cell 29 = .ok (.iload_n 3, 1) := by decide +kernel
theorem dX8_cell_30 : decode cX8_cell 30 = .ok (.iconst 1, 1) := by decide +kernel
theorem dX8_cell_31 : decode cX8_cell 31 = .ok (.if_icmp .le 6, 3) := by decide +kernel
theorem dX8_cell_34 : decode cX8_cell 34 = .ok (.bipush (-3), 2) := by decide +kernel
theorem dX8_cell_36 : decode cX8_cell 36 = .ok (.ireturn, 1) := by decide +kernel
theorem dX8_cell_37 : decode cX8_cell 37 = .ok (.aload_n 0, 1) := by decide +kernel
theorem dX8_cell_38 : decode cX8_cell 38 = .ok (.getfield 53, 3) := by decide +kernel
theorem dX8_cell_41 : decode cX8_cell 41 = .ok (.iload_n 2, 1) := by decide +kernel
theorem dX8_cell_42 : decode cX8_cell 42 = .ok (.iaload, 1) := by decide +kernel
theorem dX8_cell_43 : decode cX8_cell 43 = .ok (.istore 4, 2) := by decide +kernel
theorem dX8_cell_45 : decode cX8_cell 45 = .ok (.iconst 0, 1) := by decide +kernel
theorem dX8_cell_46 : decode cX8_cell 46 = .ok (.istore 5, 2) := by decide +kernel
theorem dX8_cell_48 : decode cX8_cell 48 = .ok (.iload 5, 2) := by decide +kernel
theorem dX8_cell_50 : decode cX8_cell 50 = .ok (.aload_n 0, 1) := by decide +kernel
theorem dX8_cell_51 : decode cX8_cell 51 = .ok (.getfield 38, 3) := by decide +kernel
theorem dX8_cell_54 : decode cX8_cell 54 = .ok (.iload 4, 2) := by decide +kernel
theorem dX8_cell_56 : decode cX8_cell 56 = .ok (.iaload, 1) := by decide +kernel
theorem dX8_cell_57 : decode cX8_cell 57 = .ok (.if_icmp .ge 60, 3) := by decide +kernel
theorem dX8_cell_60 : decode cX8_cell 60 = .ok (.aload_n 0, 1) := by decide +kernel
theorem dX8_cell_61 : decode cX8_cell 61 = .ok (.getfield 50, 3) := by decide +kernel
theorem dX8_cell_64 : decode cX8_cell 64 = .ok (.bipush 7, 2) := by decide +kernel
theorem dX8_cell_66 : decode cX8_cell 66 = .ok (.iload 4, 2) := by decide +kernel
theorem dX8_cell_68 : decode cX8_cell 68 = .ok (.imul, 1) := by decide +kernel
theorem dX8_cell_69 : decode cX8_cell 69 = .ok (.iload 5, 2) := by decide +kernel
theorem dX8_cell_71 : decode cX8_cell 71 = .ok (.iadd, 1) := by decide +kernel
theorem dX8_cell_72 : decode cX8_cell 72 = .ok (.iaload, 1) := by decide +kernel
theorem dX8_cell_73 : decode cX8_cell 73 = .ok (.iload_n 1, 1) := by decide +kernel
theorem dX8_cell_74 : decode cX8_cell 74 = .ok (.if_icmp .ne 37, 3) := by decide +kernel
theorem dX8_cell_77 : decode cX8_cell 77 = .ok (.iload_n 3, 1) := by decide +kernel
theorem dX8_cell_78 : decode cX8_cell 78 = .ok (.ifCond .ne 19, 3) := by decide +kernel
theorem dX8_cell_81 : decode cX8_cell 81 = .ok (.aload_n 0, 1) := by decide +kernel
theorem dX8_cell_82 : decode cX8_cell 82 = .ok (.getfield 44, 3) := by decide +kernel
theorem dX8_cell_85 : decode cX8_cell 85 = .ok (.bipush 7, 2) := by decide +kernel
theorem dX8_cell_87 : decode cX8_cell 87 = .ok (.iload 4, 2) := by decide +kernel
theorem dX8_cell_89 : decode cX8_cell 89 = .ok (.imul, 1) := by decide +kernel
theorem dX8_cell_90 : decode cX8_cell 90 = .ok (.iload 5, 2) := by decide +kernel
theorem dX8_cell_92 : decode cX8_cell 92 = .ok (.iadd, 1) := by decide +kernel
theorem dX8_cell_93 : decode cX8_cell 93 = .ok (.iaload, 1) := by decide +kernel
theorem dX8_cell_94 : decode cX8_cell 94 = .ok (.goto 16, 3) := by decide +kernel
theorem dX8_cell_97 : decode cX8_cell 97 = .ok (.aload_n 0, 1) := by decide +kernel
theorem dX8_cell_98 : decode cX8_cell 98 = .ok (.getfield 47, 3) := by decide +kernel
theorem dX8_cell_101 : decode cX8_cell 101 = .ok (.bipush 7, 2) := by decide +kernel
theorem dX8_cell_103 : decode cX8_cell 103 = .ok (.iload 4, 2) := by decide +kernel
theorem dX8_cell_105 : decode cX8_cell 105 = .ok (.imul, 1) := by decide +kernel
theorem dX8_cell_106 : decode cX8_cell 106 = .ok (.iload 5, 2) := by decide +kernel
theorem dX8_cell_108 : decode cX8_cell 108 = .ok (.iadd, 1) := by decide +kernel
theorem dX8_cell_109 : decode cX8_cell 109 = .ok (.iaload, 1) := by decide +kernel
theorem dX8_cell_110 : decode cX8_cell 110 = .ok (.ireturn, 1) := by decide +kernel
theorem dX8_cell_111 : decode cX8_cell 111 = .ok (.iinc 5 1, 3) := by decide +kernel
theorem dX8_cell_114 : decode cX8_cell 114 = .ok (.goto (-66), 3) := by decide +kernel
theorem dX8_cell_117 : decode cX8_cell 117 = .ok (.iload_n 1, 1) := by decide +kernel
theorem dX8_cell_118 : decode cX8_cell 118 = .ok (.aload_n 0, 1) := by decide +kernel
theorem dX8_cell_119 : decode cX8_cell 119 = .ok (.iload 4, 2) := by decide +kernel
theorem dX8_cell_121 : decode cX8_cell 121 = .ok (.invokevirtual 158, 3) := by decide +kernel
theorem dX8_cell_124 : decode cX8_cell 124 = .ok (.if_icmp .le 18, 3) := by decide +kernel
theorem dX8_cell_127 : decode cX8_cell 127 = .ok (.iload_n 1, 1) := by decide +kernel
theorem dX8_cell_128 : decode cX8_cell 128 = .ok (.aload_n 0, 1) := by decide +kernel
theorem dX8_cell_129 : decode cX8_cell 129 = .ok (.iload 4, 2) := by decide +kernel
theorem dX8_cell_131 : decode cX8_cell 131 = .ok (.invokevirtual 164, 3) := by decide +kernel
theorem dX8_cell_134 : decode cX8_cell 134 = .ok (.if_icmp .ge 8, 3) := by decide +kernel
theorem dX8_cell_137 : decode cX8_cell 137 = .ok (.bipush (-2), 2) := by decide +kernel
theorem dX8_cell_139 : decode cX8_cell 139 = .ok (.goto 4, 3) := by decide +kernel
theorem dX8_cell_142 : decode cX8_cell 142 = .ok (.iconst (-1), 1) := by decide +kernel
theorem dX8_cell_143 : decode cX8_cell 143 = .ok (.ireturn, 1) := by decide +kernel
theorem dX8_breaches_0 : decode cX8_breaches 0 = .ok (.aload_n 0, 1) := by decide +kernel
theorem dX8_breaches_1 : decode cX8_breaches 1 = .ok (.iconst 0, 1) := by decide +kernel
theorem dX8_breaches_2 : decode cX8_breaches 2 = .ok (.putfield 94, 3) := by decide +kernel
theorem dX8_breaches_5 : decode cX8_breaches 5 = .ok (.aload_n 0, 1) := by decide +kernel
theorem dX8_breaches_6 : decode cX8_breaches 6 = .ok (.getfield 120, 3) := by decide +kernel
theorem dX8_breaches_9 : decode cX8_breaches 9 = .ok (.ifCond .eq 12, 3) := by decide +kernel
theorem dX8_breaches_12 : decode cX8_breaches 12 = .ok (.iload_n 1, 1) := by decide +kernel
theorem dX8_breaches_13 : decode cX8_breaches 13 = .ok (.ifCond .lt 8, 3) := by decide +kernel
theorem dX8_breaches_16 : decode cX8_breaches 16 = .ok (.iload_n 1, 1) := by decide +kernel
theorem dX8_breaches_17 : decode cX8_breaches 17 = .ok (.iconst 1, 1) := by decide +kernel
theorem dX8_breaches_18 : decode cX8_breaches 18 = .ok (.if_icmp .le 5, 3) := by decide +kernel
theorem dX8_breaches_21 : decode cX8_breaches 21 = .ok (.iconst (-1), 1) := by decide +kernel
theorem dX8_breaches_22 : decode cX8_breaches 22 = .ok (.ireturn, 1) := by decide +kernel
theorem dX8_breaches_23 : decode cX8_breaches 23 = .ok (.iload_n 1, 1) := by decide +kernel
theorem dX8_breaches_24 : decode cX8_breaches 24 = .ok (.ifCond .ne 12, 3) := by decide +kernel
theorem dX8_breaches_27 : decode cX8_breaches 27 = .ok (.aload_n 0, 1) := by decide +kernel
theorem dX8_breaches_28 : decode cX8_breaches 28 = .ok (.aload_n 0, 1) := by decide +kernel
theorem dX8_breaches_29 : decode cX8_breaches 29 = .ok (.getfield 53, 3) := by decide +kernel
theorem dX8_breaches_32 : decode cX8_breaches 32 = .ok (.invokevirtual 147, 3) := by decide +kernel
theorem dX8_breaches_35 : decode cX8_breaches 35 = .ok (.ireturn, 1) := by decide +kernel
theorem dX8_breaches_36 : decode cX8_breaches 36 = .ok (.iconst 0, 1) := by decide +kernel
theorem dX8_breaches_37 : decode cX8_breaches 37 = .ok (.istore_n 2, 1) := by decide +kernel
theorem dX8_breaches_38 : decode cX8_breaches 38 = .ok (.iconst 0, 1) := by decide +kernel
theorem dX8_breaches_39 : decode cX8_breaches 39 = .ok (.istore_n 3, 1) := by decide +kernel
theorem dX8_breaches_40 : decode cX8_breaches 40 = .ok (.iload_n 3, 1) := by decide +kernel
theorem dX8_breaches_41 : decode cX8_breaches 41 = .ok (.aload_n 0, 1) := by decide +kernel
theorem dX8_breaches_42 : decode cX8_breaches 42 = .ok (.getfield 120, 3) := by decide +kernel
theorem dX8_breaches_45 : decode cX8_breaches 45 = .ok (.if_icmp .ge 53, 3) := by decide +kernel
theorem dX8_breaches_48 : decode cX8_breaches 48 = .ok (.iload_n 3, 1) := by decide +kernel
theorem dX8_breaches_49 : decode cX8_breaches 49 = .ok (.iconst 1, 1) := by decide +kernel
theorem dX8_breaches_50 : decode cX8_breaches 50 = .ok (.iadd, 1) := by decide +kernel
theorem dX8_breaches_51 : decode cX8_breaches 51 = .ok (.istore 4, 2) := by decide +kernel
theorem dX8_breaches_53 : decode cX8_breaches 53 = .ok (.iload 4, 2) := by decide +kernel
theorem dX8_breaches_55 : decode cX8_breaches 55 = .ok (.aload_n 0, 1) := by decide +kernel
theorem dX8_breaches_56 : decode cX8_breaches 56 = .ok (.getfield 120, 3) := by decide +kernel
theorem dX8_breaches_59 : decode cX8_breaches 59 = .ok (.if_icmp .ge 33, 3) := by decide +kernel
theorem dX8_breaches_62 : decode cX8_breaches 62 = .ok (.aload_n 0, 1) := by decide +kernel
theorem dX8_breaches_63 : decode cX8_breaches 63 = .ok (.iload_n 3, 1) := by decide +kernel
theorem dX8_breaches_64 : decode cX8_breaches 64 = .ok (.iload 4, 2) := by decide +kernel
theorem dX8_breaches_66 : decode cX8_breaches 66 = .ok (.invokevirtual 139, 3) := by decide +kernel
theorem dX8_breaches_69 : decode cX8_breaches 69 = .ok (.ifCond .eq 17, 3) := by decide +kernel
theorem dX8_breaches_72 : decode cX8_breaches 72 = .ok (.aload_n 0, 1) := by decide +kernel
theorem dX8_breaches_73 : decode cX8_breaches 73 = .ok (.iload 4, 2) := by decide +kernel
theorem dX8_breaches_75 : decode cX8_breaches 75 = .ok (.iload_n 3, 1) := by decide +kernel
theorem dX8_breaches_76 : decode cX8_breaches 76 = .ok (.invokevirtual 139, 3) := by decide +kernel
theorem dX8_breaches_79 : decode cX8_breaches 79 = .ok (.ifCond .eq 7, 3) := by decide +kernel
theorem dX8_breaches_82 : decode cX8_breaches 82 = .ok (.iload_n 2, 1) := by decide +kernel
theorem dX8_breaches_83 : decode cX8_breaches 83 = .ok (.iconst 1, 1) := by decide +kernel
theorem dX8_breaches_84 : decode cX8_breaches 84 = .ok (.iadd, 1) := by decide +kernel
theorem dX8_breaches_85 : decode cX8_breaches 85 = .ok (.istore_n 2, 1) := by decide +kernel
theorem dX8_breaches_86 : decode cX8_breaches 86 = .ok (.iinc 4 1, 3) := by decide +kernel
theorem dX8_breaches_89 : decode cX8_breaches 89 = .ok (.goto (-36), 3) := by decide +kernel
theorem dX8_breaches_92 : decode cX8_breaches 92 = .ok (.iinc 3 1, 3) := by decide +kernel
theorem dX8_breaches_95 : decode cX8_breaches 95 = .ok (.goto (-55), 3) := by decide +kernel
theorem dX8_breaches_98 : decode cX8_breaches 98 = .ok (.iload_n 2, 1) := by decide +kernel
theorem dX8_breaches_99 : decode cX8_breaches 99 = .ok (.ireturn, 1) := by decide +kernel
theorem dX8_breach_0 : decode cX8_breach 0 = .ok (.aload_n 0, 1) := by decide +kernel
theorem dX8_breach_1 : decode cX8_breach 1 = .ok (.iconst 0, 1) := by decide +kernel
theorem dX8_breach_2 : decode cX8_breach 2 = .ok (.putfield 94, 3) := by decide +kernel
theorem dX8_breach_5 : decode cX8_breach 5 = .ok (.aload_n 0, 1) := by decide +kernel
theorem dX8_breach_6 : decode cX8_breach 6 = .ok (.iload_n 1, 1) := by decide +kernel
theorem dX8_breach_7 : decode cX8_breach 7 = .ok (.invokevirtual 176, 3) := by decide +kernel
theorem dX8_breach_10 : decode cX8_breach 10 = .ok (.ifCond .eq 16, 3) := by decide +kernel
theorem dX8_breach_13 : decode cX8_breach 13 = .ok (.aload_n 0, 1) := by decide +kernel
theorem dX8_breach_14 : decode cX8_breach 14 = .ok (.iload_n 2, 1) := by decide +kernel
theorem dX8_breach_15 : decode cX8_breach 15 = .ok (.invokevirtual 176, 3) := by decide +kernel
theorem dX8_breach_18 : decode cX8_breach 18 = .ok (.ifCond .eq 8, 3) := by decide +kernel
theorem dX8_breach_21 : decode cX8_breach 21 = .ok (.iload_n 1, 1) := by decide +kernel
theorem dX8_breach_22 : decode cX8_breach 22 = .ok (.iload_n 2, 1) := by decide +kernel
theorem dX8_breach_23 : decode cX8_breach 23 = .ok (.if_icmp .lt 7, 3) := by decide +kernel
theorem dX8_breach_26 : decode cX8_breach 26 = .ok (.iconst (-1), 1) := by decide +kernel
theorem dX8_breach_27 : decode cX8_breach 27 = .ok (.goto 27, 3) := by decide +kernel
theorem dX8_breach_30 : decode cX8_breach 30 = .ok (.aload_n 0, 1) := by decide +kernel
theorem dX8_breach_31 : decode cX8_breach 31 = .ok (.aload_n 0, 1) := by decide +kernel
theorem dX8_breach_32 : decode cX8_breach 32 = .ok (.getfield 53, 3) := by decide +kernel
theorem dX8_breach_35 : decode cX8_breach 35 = .ok (.iload_n 1, 1) := by decide +kernel
theorem dX8_breach_36 : decode cX8_breach 36 = .ok (.iaload, 1) := by decide +kernel
theorem dX8_breach_37 : decode cX8_breach 37 = .ok (.aload_n 0, 1) := by decide +kernel
theorem dX8_breach_38 : decode cX8_breach 38 = .ok (.getfield 53, 3) := by decide +kernel
theorem dX8_breach_41 : decode cX8_breach 41 = .ok (.iload_n 2, 1) := by decide +kernel
theorem dX8_breach_42 : decode cX8_breach 42 = .ok (.iaload, 1) := by decide +kernel
theorem dX8_breach_43 : decode cX8_breach 43 = .ok (.invokevirtual 139, 3) := by decide +kernel
theorem dX8_breach_46 : decode cX8_breach 46 = .ok (.ifCond .eq 7, 3) := by decide +kernel
theorem dX8_breach_49 : decode cX8_breach 49 = .ok (.iconst 1, 1) := by decide +kernel
theorem dX8_breach_50 : decode cX8_breach 50 = .ok (.goto 4, 3) := by decide +kernel
theorem dX8_breach_53 : decode cX8_breach 53 = .ok (.iconst 0, 1) := by decide +kernel
theorem dX8_breach_54 : decode cX8_breach 54 = .ok (.ireturn, 1) := by decide +kernel
theorem dX8_lanes_0 : decode cX8_lanes 0 = .ok (.aload_n 0, 1) := by decide +kernel
theorem dX8_lanes_1 : decode cX8_lanes 1 = .ok (.iconst 0, 1) := by decide +kernel
theorem dX8_lanes_2 : decode cX8_lanes 2 = .ok (.putfield 94, 3) := by decide +kernel
theorem dX8_lanes_5 : decode cX8_lanes 5 = .ok (.aload_n 0, 1) := by decide +kernel
theorem dX8_lanes_6 : decode cX8_lanes 6 = .ok (.getfield 120, 3) := by decide +kernel
theorem dX8_lanes_9 : decode cX8_lanes 9 = .ok (.ifCond .ne 7, 3) := by decide +kernel
theorem dX8_lanes_12 : decode cX8_lanes 12 = .ok (.iconst (-1), 1) := by decide +kernel
theorem dX8_lanes_13 : decode cX8_lanes 13 = .ok (.goto 7, 3) := by decide +kernel
theorem dX8_lanes_16 : decode cX8_lanes 16 = .ok (.aload_n 0, 1) := by decide +kernel
theorem dX8_lanes_17 : decode cX8_lanes 17 = .ok (.getfield 155, 3) := by decide +kernel
theorem dX8_lanes_20 : decode cX8_lanes 20 = .ok (.ireturn, 1) := by decide +kernel
theorem dX8_lane_0 : decode cX8_lane 0 = .ok (.aload_n 0, 1) := by decide +kernel
theorem dX8_lane_1 : decode cX8_lane 1 = .ok (.iconst 0, 1) := by decide +kernel
theorem dX8_lane_2 : decode cX8_lane 2 = .ok (.putfield 94, 3) := by decide +kernel
theorem dX8_lane_5 : decode cX8_lane 5 = .ok (.aload_n 0, 1) := by decide +kernel
theorem dX8_lane_6 : decode cX8_lane 6 = .ok (.iload_n 1, 1) := by decide +kernel
theorem dX8_lane_7 : decode cX8_lane 7 = .ok (.invokevirtual 176, 3) := by decide +kernel
theorem dX8_lane_10 : decode cX8_lane 10 = .ok (.ifCond .eq 17, 3) := by decide +kernel
theorem dX8_lane_13 : decode cX8_lane 13 = .ok (.aload_n 0, 1) := by decide +kernel
theorem dX8_lane_14 : decode cX8_lane 14 = .ok (.getfield 56, 3) := by decide +kernel
theorem dX8_lane_17 : decode cX8_lane 17 = .ok (.aload_n 0, 1) := by decide +kernel
theorem dX8_lane_18 : decode cX8_lane 18 = .ok (.getfield 53, 3) := by decide +kernel
theorem dX8_lane_21 : decode cX8_lane 21 = .ok (.iload_n 1, 1) := by decide +kernel
theorem dX8_lane_22 : decode cX8_lane 22 = .ok (.iaload, 1) := by decide +kernel
theorem dX8_lane_23 : decode cX8_lane 23 = .ok (.iaload, 1) := by decide +kernel
theorem dX8_lane_24 : decode cX8_lane 24 = .ok (.goto 4, 3) := by decide +kernel
theorem dX8_lane_27 : decode cX8_lane 27 = .ok (.iconst (-1), 1) := by decide +kernel
theorem dX8_lane_28 : decode cX8_lane 28 = .ok (.ireturn, 1) := by decide +kernel
theorem dX8_runs_0 : decode cX8_runs 0 = .ok (.aload_n 0, 1) := by decide +kernel
theorem dX8_runs_1 : decode cX8_runs 1 = .ok (.getfield 13, 3) := by decide +kernel
theorem dX8_runs_4 : decode cX8_runs 4 = .ok (.iload_n 1, 1) := by decide +kernel
theorem dX8_runs_5 : decode cX8_runs 5 = .ok (.iaload, 1) := by decide +kernel
theorem dX8_runs_6 : decode cX8_runs 6 = .ok (.iload_n 2, 1) := by decide +kernel
theorem dX8_runs_7 : decode cX8_runs 7 = .ok (.ishr, 1) := by decide +kernel
theorem dX8_runs_8 : decode cX8_runs 8 = .ok (.iconst 1, 1) := by decide +kernel
theorem dX8_runs_9 : decode cX8_runs 9 = .ok (.iand, 1) := by decide +kernel
theorem dX8_runs_10 : decode cX8_runs 10 = .ok (.iconst 1, 1) := by decide +kernel
theorem dX8_runs_11 : decode cX8_runs 11 = .ok (.if_icmp .ne 7, 3) := by decide +kernel
theorem dX8_runs_14 : decode cX8_runs 14 = .ok (.iconst 1, 1) := by decide +kernel
theorem dX8_runs_15 : decode cX8_runs 15 = .ok (.goto 4, 3) := by decide +kernel
theorem dX8_runs_18 : decode cX8_runs 18 = .ok (.iconst 0, 1) := by decide +kernel
theorem dX8_runs_19 : decode cX8_runs 19 = .ok (.ireturn, 1) := by decide +kernel
theorem dX8_canChange_0 : decode cX8_canChange 0 = .ok (.aload_n 0, 1) := by decide +kernel
theorem dX8_canChange_1 : decode cX8_canChange 1 = .ok (.getfield 20, 3) := by decide +kernel
theorem dX8_canChange_4 : decode cX8_canChange 4 = .ok (.iload_n 1, 1) := by decide +kernel
theorem dX8_canChange_5 : decode cX8_canChange 5 = .ok (.iaload, 1) := by decide +kernel
theorem dX8_canChange_6 : decode cX8_canChange 6 = .ok (.aload_n 0, 1) := by decide +kernel
theorem dX8_canChange_7 : decode cX8_canChange 7 = .ok (.getfield 20, 3) := by decide +kernel
theorem dX8_canChange_10 : decode cX8_canChange 10 = .ok (.iload_n 2, 1) := by decide +kernel
theorem dX8_canChange_11 : decode cX8_canChange 11 = .ok (.iaload, 1) := by decide +kernel
theorem dX8_canChange_12 : decode cX8_canChange 12 = .ok (.if_icmp .ne 27, 3) := by decide +kernel
theorem dX8_canChange_15 : decode cX8_canChange 15 = .ok (.aload_n 0, 1) := by decide +kernel
theorem dX8_canChange_16 : decode cX8_canChange 16 = .ok (.getfield 23, 3) := by decide +kernel
theorem dX8_canChange_19 : decode cX8_canChange 19 = .ok (.iload_n 1, 1) := by decide +kernel
theorem dX8_canChange_20 : decode cX8_canChange 20 = .ok (.iaload, 1) := by decide +kernel
theorem dX8_canChange_21 : decode cX8_canChange 21 = .ok (.aload_n 0, 1) := by decide +kernel
theorem dX8_canChange_22 : decode cX8_canChange 22 = .ok (.getfield 7, 3) := by decide +kernel
theorem dX8_canChange_25 : decode cX8_canChange 25 = .ok (.iadd, 1) := by decide +kernel
theorem dX8_canChange_26 : decode cX8_canChange 26 = .ok (.aload_n 0, 1) := by decide +kernel
theorem dX8_canChange_27 : decode cX8_canChange 27 = .ok (.getfield 26, 3) := by decide +kernel
theorem dX8_canChange_30 : decode cX8_canChange 30 = .ok (.iload_n 2, 1) := by decide +kernel
theorem dX8_canChange_31 : decode cX8_canChange 31 = .ok (.iaload, 1) := by decide +kernel
theorem dX8_canChange_32 : decode cX8_canChange 32 = .ok (.if_icmp .gt 7, 3) := by decide +kernel
theorem dX8_canChange_35 : decode cX8_canChange 35 = .ok (.iconst 1, 1) := by decide +kernel
theorem dX8_canChange_36 : decode cX8_canChange 36 = .ok (.goto 4, 3) := by decide +kernel
theorem dX8_canChange_39 : decode cX8_canChange 39 = .ok (.iconst 0, 1) := by decide +kernel
theorem dX8_canChange_40 : decode cX8_canChange 40 = .ok (.ireturn, 1) := by decide +kernel
theorem dX8_isBoarded_0 : decode cX8_isBoarded 0 = .ok (.aload_n 0, 1) := by decide +kernel
theorem dX8_isBoarded_1 : decode cX8_isBoarded 1 = .ok (.getfield 20, 3) := by decide +kernel
theorem dX8_isBoarded_4 : decode cX8_isBoarded 4 = .ok (.iload_n 1, 1) := by decide +kernel
theorem dX8_isBoarded_5 : decode cX8_isBoarded 5 = .ok (.iaload, 1) := by decide +kernel
theorem dX8_isBoarded_6 : decode cX8_isBoarded 6 = .ok (.iload_n 2, 1) := by decide +kernel
theorem dX8_isBoarded_7 : decode cX8_isBoarded 7 = .ok (.if_icmp .ne 15, 3) := by decide +kernel
theorem dX8_isBoarded_10 : decode cX8_isBoarded 10 = .ok (.aload_n 0, 1) := by decide +kernel
theorem dX8_isBoarded_11 : decode cX8_isBoarded 11 = .ok (.getfield 26, 3) := by decide +kernel
theorem dX8_isBoarded_14 : decode cX8_isBoarded 14 = .ok (.iload_n 1, 1) := by decide +kernel
theorem dX8_isBoarded_15 : decode cX8_isBoarded 15 = .ok (.iaload, 1) := by decide +kernel
theorem dX8_isBoarded_16 : decode cX8_isBoarded 16 = .ok (.iload_n 3, 1) := by decide +kernel
theorem dX8_isBoarded_17 : decode cX8_isBoarded 17 = .ok (.if_icmp .lt 5, 3) := by decide +kernel
theorem dX8_isBoarded_20 : decode cX8_isBoarded 20 = .ok (.iconst 1, 1) := by decide +kernel
theorem dX8_isBoarded_21 : decode cX8_isBoarded 21 = .ok (.ireturn, 1) := by decide +kernel
theorem dX8_isBoarded_22 : decode cX8_isBoarded 22 = .ok (.iconst 0, 1) := by decide +kernel
theorem dX8_isBoarded_23 : decode cX8_isBoarded 23 = .ok (.istore 5, 2) := by decide +kernel
theorem dX8_isBoarded_25 : decode cX8_isBoarded 25 = .ok (.iload 5, 2) := by decide +kernel
theorem dX8_isBoarded_27 : decode cX8_isBoarded 27 = .ok (.aload_n 0, 1) := by decide +kernel
theorem dX8_isBoarded_28 : decode cX8_isBoarded 28 = .ok (.getfield 97, 3) := by decide +kernel
theorem dX8_isBoarded_31 : decode cX8_isBoarded 31 = .ok (.if_icmp .ge 75, 3) := by decide +kernel
theorem dX8_isBoarded_34 : decode cX8_isBoarded 34 = .ok (.aload_n 0, 1) := by decide +kernel
theorem dX8_isBoarded_35 : decode cX8_isBoarded 35 = .ok (.iload 5, 2) := by decide +kernel
theorem dX8_isBoarded_37 : decode cX8_isBoarded 37 = .ok (.iload 4, 2) := by decide +kernel
theorem dX8_isBoarded_39 : decode cX8_isBoarded 39 = .ok (.invokevirtual 179, 3) := by decide +kernel
theorem dX8_isBoarded_42 : decode cX8_isBoarded 42 = .ok (.ifCond .eq 58, 3) := by decide +kernel
theorem dX8_isBoarded_45 : decode cX8_isBoarded 45 = .ok (.iconst 1, 1) := by decide +kernel
theorem dX8_isBoarded_46 : decode cX8_isBoarded 46 = .ok (.istore 6, 2) := by decide +kernel
theorem dX8_isBoarded_48 : decode cX8_isBoarded 48 = .ok (.iload 6, 2) := by decide +kernel
theorem dX8_isBoarded_50 : decode cX8_isBoarded 50 = .ok (.aload_n 0, 1) := by decide +kernel
theorem dX8_isBoarded_51 : decode cX8_isBoarded 51 = .ok (.getfield 17, 3) := by decide +kernel
theorem dX8_isBoarded_54 : decode cX8_isBoarded 54 = .ok (.iload 5, 2) := by decide +kernel
theorem dX8_isBoarded_56 : decode cX8_isBoarded 56 = .ok (.iaload, 1) := by decide +kernel
theorem dX8_isBoarded_57 : decode cX8_isBoarded 57 = .ok (.if_icmp .ge 43, 3) := by decide +kernel
theorem dX8_isBoarded_60 : decode cX8_isBoarded 60 = .ok (.aload_n 0, 1) := by decide +kernel
end
section
theorem dX8_isBoarded_61 : decode cX8_isBoarded 61 = .ok (.getfield 66, 3) := by decide +kernel
theorem dX8_isBoarded_64 : decode cX8_isBoarded 64 = .ok (.bipush 7, 2) := by decide +kernel
theorem dX8_isBoarded_66 : decode cX8_isBoarded 66 = .ok (.iload 5, 2) := by decide +kernel
theorem dX8_isBoarded_68 : decode cX8_isBoarded 68 = .ok (.imul, 1) := by decide +kernel
theorem dX8_isBoarded_69 : decode cX8_isBoarded 69 = .ok (.iload 6, 2) := by decide +kernel
theorem dX8_isBoarded_71 : decode cX8_isBoarded 71 = .ok (.iadd, 1) := by decide +kernel
theorem dX8_isBoarded_72 : decode cX8_isBoarded 72 = .ok (.baload, 1) := by decide +kernel
theorem dX8_isBoarded_73 : decode cX8_isBoarded 73 = .ok (.ifCond .eq 21, 3) := by decide +kernel
theorem dX8_isBoarded_76 : decode cX8_isBoarded 76 = .ok (.aload_n 0, 1) := by decide +kernel
theorem dX8_isBoarded_77 : decode cX8_isBoarded 77 = .ok (.bipush 7, 2) := by decide +kernel
theorem dX8_isBoarded_79 : decode cX8_isBoarded 79 = .ok (.iload 5, 2) := by decide +kernel
theorem dX8_isBoarded_81 : decode cX8_isBoarded 81 = .ok (.imul, 1) := by decide +kernel
theorem dX8_isBoarded_82 : decode cX8_isBoarded 82 = .ok (.iload 6, 2) := by decide +kernel
theorem dX8_isBoarded_84 : decode cX8_isBoarded 84 = .ok (.iadd, 1) := by decide +kernel
theorem dX8_isBoarded_85 : decode cX8_isBoarded 85 = .ok (.iload_n 1, 1) := by decide +kernel
theorem dX8_isBoarded_86 : decode cX8_isBoarded 86 = .ok (.invokevirtual 182, 3) := by decide +kernel
theorem dX8_isBoarded_89 : decode cX8_isBoarded 89 = .ok (.ifCond .eq 5, 3) := by decide +kernel
theorem dX8_isBoarded_92 : decode cX8_isBoarded 92 = .ok (.iconst 1, 1) := by decide +kernel
theorem dX8_isBoarded_93 : decode cX8_isBoarded 93 = .ok (.ireturn, 1) := by decide +kernel
theorem dX8_isBoarded_94 : decode cX8_isBoarded 94 = .ok (.iinc 6 1, 3) := by decide +kernel
theorem dX8_isBoarded_97 : decode cX8_isBoarded 97 = .ok (.goto (-49), 3) := by decide +kernel
theorem dX8_isBoarded_100 : decode cX8_isBoarded 100 = .ok (.iinc 5 1, 3) := by decide +kernel
theorem dX8_isBoarded_103 : decode cX8_isBoarded 103 = .ok (.goto (-78), 3) := by decide +kernel
theorem dX8_isBoarded_106 : decode cX8_isBoarded 106 = .ok (.iconst 0, 1) := by decide +kernel
theorem dX8_isBoarded_107 : decode cX8_isBoarded 107 = .ok (.ireturn, 1) := by decide +kernel
theorem dX8_soonest_0 : decode cX8_soonest 0 = .ok (.iconst 0, 1) := by decide +kernel
theorem dX8_soonest_1 : decode cX8_soonest 1 = .ok (.istore 5, 2) := by decide +kernel
theorem dX8_soonest_3 : decode cX8_soonest 3 = .ok (.iload 5, 2) := by decide +kernel
theorem dX8_soonest_5 : decode cX8_soonest 5 = .ok (.bipush 70, 2) := by decide +kernel
theorem dX8_soonest_7 : decode cX8_soonest 7 = .ok (.if_icmp .ge 17, 3) := by decide +kernel
theorem dX8_soonest_10 : decode cX8_soonest 10 = .ok (.aload_n 0, 1) := by decide +kernel
theorem dX8_soonest_11 : decode cX8_soonest 11 = .ok (.getfield 66, 3) := by decide +kernel
theorem dX8_soonest_14 : decode cX8_soonest 14 = .ok (.iload 5, 2) := by decide +kernel
theorem dX8_soonest_16 : decode cX8_soonest 16 = .ok (.iconst 0, 1) := by decide +kernel
theorem dX8_soonest_17 : decode cX8_soonest 17 = .ok (.bastore, 1) := by decide +kernel
theorem dX8_soonest_18 : decode cX8_soonest 18 = .ok (.iinc 5 1, 3) := by decide +kernel
theorem dX8_soonest_21 : decode cX8_soonest 21 = .ok (.goto (-18), 3) := by decide +kernel
theorem dX8_soonest_24 : decode cX8_soonest 24 = .ok (.iconst 1, 1) := by decide +kernel
theorem dX8_soonest_25 : decode cX8_soonest 25 = .ok (.istore 5, 2) := by decide +kernel
theorem dX8_soonest_27 : decode cX8_soonest 27 = .ok (.iload 5, 2) := by decide +kernel
theorem dX8_soonest_29 : decode cX8_soonest 29 = .ok (.ifCond .eq 122, 3) := by decide +kernel
theorem dX8_soonest_32 : decode cX8_soonest 32 = .ok (.iconst 0, 1) := by decide +kernel
theorem dX8_soonest_33 : decode cX8_soonest 33 = .ok (.istore 5, 2) := by decide +kernel
theorem dX8_soonest_35 : decode cX8_soonest 35 = .ok (.iconst 0, 1) := by decide +kernel
theorem dX8_soonest_36 : decode cX8_soonest 36 = .ok (.istore 6, 2) := by decide +kernel
theorem dX8_soonest_38 : decode cX8_soonest 38 = .ok (.iload 6, 2) := by decide +kernel
theorem dX8_soonest_40 : decode cX8_soonest 40 = .ok (.aload_n 0, 1) := by decide +kernel
theorem dX8_soonest_41 : decode cX8_soonest 41 = .ok (.getfield 97, 3) := by decide +kernel
theorem dX8_soonest_44 : decode cX8_soonest 44 = .ok (.if_icmp .ge 104, 3) := by decide +kernel
theorem dX8_soonest_47 : decode cX8_soonest 47 = .ok (.iconst 0, 1) := by decide +kernel
theorem dX8_soonest_48 : decode cX8_soonest 48 = .ok (.istore 7, 2) := by decide +kernel
theorem dX8_soonest_50 : decode cX8_soonest 50 = .ok (.iconst 0, 1) := by decide +kernel
theorem dX8_soonest_51 : decode cX8_soonest 51 = .ok (.istore 8, 2) := by decide +kernel
theorem dX8_soonest_53 : decode cX8_soonest 53 = .ok (.iload 8, 2) := by decide +kernel
theorem dX8_soonest_55 : decode cX8_soonest 55 = .ok (.aload_n 0, 1) := by decide +kernel
theorem dX8_soonest_56 : decode cX8_soonest 56 = .ok (.getfield 17, 3) := by decide +kernel
theorem dX8_soonest_59 : decode cX8_soonest 59 = .ok (.iload 6, 2) := by decide +kernel
theorem dX8_soonest_61 : decode cX8_soonest 61 = .ok (.iaload, 1) := by decide +kernel
theorem dX8_soonest_62 : decode cX8_soonest 62 = .ok (.if_icmp .ge 80, 3) := by decide +kernel
theorem dX8_soonest_65 : decode cX8_soonest 65 = .ok (.aload_n 0, 1) := by decide +kernel
theorem dX8_soonest_66 : decode cX8_soonest 66 = .ok (.iload 6, 2) := by decide +kernel
theorem dX8_soonest_68 : decode cX8_soonest 68 = .ok (.iload_n 3, 1) := by decide +kernel
theorem dX8_soonest_69 : decode cX8_soonest 69 = .ok (.invokevirtual 179, 3) := by decide +kernel
theorem dX8_soonest_72 : decode cX8_soonest 72 = .ok (.ifCond .eq 70, 3) := by decide +kernel
theorem dX8_soonest_75 : decode cX8_soonest 75 = .ok (.bipush 7, 2) := by decide +kernel
theorem dX8_soonest_77 : decode cX8_soonest 77 = .ok (.iload 6, 2) := by decide +kernel
theorem dX8_soonest_79 : decode cX8_soonest 79 = .ok (.imul, 1) := by decide +kernel
theorem dX8_soonest_80 : decode cX8_soonest 80 = .ok (.iload 8, 2) := by decide +kernel
theorem dX8_soonest_82 : decode cX8_soonest 82 = .ok (.iadd, 1) := by decide +kernel
theorem dX8_soonest_83 : decode cX8_soonest 83 = .ok (.istore 9, 2) := by decide +kernel
theorem dX8_soonest_85 : decode cX8_soonest 85 = .ok (.iload 7, 2) := by decide +kernel
theorem dX8_soonest_87 : decode cX8_soonest 87 = .ok (.ifCond .eq 24, 3) := by decide +kernel
theorem dX8_soonest_90 : decode cX8_soonest 90 = .ok (.aload_n 0, 1) := by decide +kernel
theorem dX8_soonest_91 : decode cX8_soonest 91 = .ok (.getfield 66, 3) := by decide +kernel
theorem dX8_soonest_94 : decode cX8_soonest 94 = .ok (.iload 9, 2) := by decide +kernel
theorem dX8_soonest_96 : decode cX8_soonest 96 = .ok (.baload, 1) := by decide +kernel
theorem dX8_soonest_97 : decode cX8_soonest 97 = .ok (.ifCond .ne 14, 3) := by decide +kernel
theorem dX8_soonest_100 : decode cX8_soonest 100 = .ok (.aload_n 0, 1) := by decide +kernel
theorem dX8_soonest_101 : decode cX8_soonest 101 = .ok (.getfield 66, 3) := by decide +kernel
theorem dX8_soonest_104 : decode cX8_soonest 104 = .ok (.iload 9, 2) := by decide +kernel
theorem dX8_soonest_106 : decode cX8_soonest 106 = .ok (.iconst 1, 1) := by decide +kernel
theorem dX8_soonest_107 : decode cX8_soonest 107 = .ok (.bastore, 1) := by decide +kernel
theorem dX8_soonest_108 : decode cX8_soonest 108 = .ok (.iconst 1, 1) := by decide +kernel
theorem dX8_soonest_109 : decode cX8_soonest 109 = .ok (.istore 5, 2) := by decide +kernel
theorem dX8_soonest_111 : decode cX8_soonest 111 = .ok (.iload 7, 2) := by decide +kernel
theorem dX8_soonest_113 : decode cX8_soonest 113 = .ok (.ifCond .ne 16, 3) := by decide +kernel
theorem dX8_soonest_116 : decode cX8_soonest 116 = .ok (.aload_n 0, 1) := by decide +kernel
theorem dX8_soonest_117 : decode cX8_soonest 117 = .ok (.iload 9, 2) := by decide +kernel
theorem dX8_soonest_119 : decode cX8_soonest 119 = .ok (.iload_n 1, 1) := by decide +kernel
theorem dX8_soonest_120 : decode cX8_soonest 120 = .ok (.iload 4, 2) := by decide +kernel
theorem dX8_soonest_122 : decode cX8_soonest 122 = .ok (.iload_n 3, 1) := by decide +kernel
theorem dX8_soonest_123 : decode cX8_soonest 123 = .ok (.invokevirtual 185, 3) := by decide +kernel
theorem dX8_soonest_126 : decode cX8_soonest 126 = .ok (.ifCond .eq 7, 3) := by decide +kernel
theorem dX8_soonest_129 : decode cX8_soonest 129 = .ok (.iconst 1, 1) := by decide +kernel
theorem dX8_soonest_130 : decode cX8_soonest 130 = .ok (.goto 4, 3) := by decide +kernel
theorem dX8_soonest_133 : decode cX8_soonest 133 = .ok (.iconst 0, 1) := by decide +kernel
theorem dX8_soonest_134 : decode cX8_soonest 134 = .ok (.istore 7, 2) := by decide +kernel
theorem dX8_soonest_136 : decode cX8_soonest 136 = .ok (.iinc 8 1, 3) := by decide +kernel
theorem dX8_soonest_139 : decode cX8_soonest 139 = .ok (.goto (-86), 3) := by decide +kernel
theorem dX8_soonest_142 : decode cX8_soonest 142 = .ok (.iinc 6 1, 3) := by decide +kernel
theorem dX8_soonest_145 : decode cX8_soonest 145 = .ok (.goto (-107), 3) := by decide +kernel
theorem dX8_soonest_148 : decode cX8_soonest 148 = .ok (.goto (-121), 3) := by decide +kernel
theorem dX8_soonest_151 : decode cX8_soonest 151 = .ok (.iconst (-1), 1) := by decide +kernel
theorem dX8_soonest_152 : decode cX8_soonest 152 = .ok (.istore 6, 2) := by decide +kernel
theorem dX8_soonest_154 : decode cX8_soonest 154 = .ok (.iconst 0, 1) := by decide +kernel
theorem dX8_soonest_155 : decode cX8_soonest 155 = .ok (.istore 7, 2) := by decide +kernel
theorem dX8_soonest_157 : decode cX8_soonest 157 = .ok (.iload 7, 2) := by decide +kernel
theorem dX8_soonest_159 : decode cX8_soonest 159 = .ok (.aload_n 0, 1) := by decide +kernel
theorem dX8_soonest_160 : decode cX8_soonest 160 = .ok (.getfield 97, 3) := by decide +kernel
theorem dX8_soonest_163 : decode cX8_soonest 163 = .ok (.if_icmp .ge 102, 3) := by decide +kernel
theorem dX8_soonest_166 : decode cX8_soonest 166 = .ok (.iconst 1, 1) := by decide +kernel
theorem dX8_soonest_167 : decode cX8_soonest 167 = .ok (.istore 8, 2) := by decide +kernel
theorem dX8_soonest_169 : decode cX8_soonest 169 = .ok (.iload 8, 2) := by decide +kernel
theorem dX8_soonest_171 : decode cX8_soonest 171 = .ok (.aload_n 0, 1) := by decide +kernel
theorem dX8_soonest_172 : decode cX8_soonest 172 = .ok (.getfield 17, 3) := by decide +kernel
theorem dX8_soonest_175 : decode cX8_soonest 175 = .ok (.iload 7, 2) := by decide +kernel
theorem dX8_soonest_177 : decode cX8_soonest 177 = .ok (.iaload, 1) := by decide +kernel
theorem dX8_soonest_178 : decode cX8_soonest 178 = .ok (.if_icmp .ge 81, 3) := by decide +kernel
theorem dX8_soonest_181 : decode cX8_soonest 181 = .ok (.aload_n 0, 1) := by decide +kernel
theorem dX8_soonest_182 : decode cX8_soonest 182 = .ok (.getfield 66, 3) := by decide +kernel
theorem dX8_soonest_185 : decode cX8_soonest 185 = .ok (.bipush 7, 2) := by decide +kernel
theorem dX8_soonest_187 : decode cX8_soonest 187 = .ok (.iload 7, 2) := by decide +kernel
theorem dX8_soonest_189 : decode cX8_soonest 189 = .ok (.imul, 1) := by decide +kernel
theorem dX8_soonest_190 : decode cX8_soonest 190 = .ok (.iload 8, 2) := by decide +kernel
theorem dX8_soonest_192 : decode cX8_soonest 192 = .ok (.iadd, 1) := by decide +kernel
theorem dX8_soonest_193 : decode cX8_soonest 193 = .ok (.baload, 1) := by decide +kernel
theorem dX8_soonest_194 : decode cX8_soonest 194 = .ok (.ifCond .eq 59, 3) := by decide +kernel
theorem dX8_soonest_197 : decode cX8_soonest 197 = .ok (.aload_n 0, 1) := by decide +kernel
theorem dX8_soonest_198 : decode cX8_soonest 198 = .ok (.getfield 20, 3) := by decide +kernel
theorem dX8_soonest_201 : decode cX8_soonest 201 = .ok (.bipush 7, 2) := by decide +kernel
theorem dX8_soonest_203 : decode cX8_soonest 203 = .ok (.iload 7, 2) := by decide +kernel
theorem dX8_soonest_205 : decode cX8_soonest 205 = .ok (.imul, 1) := by decide +kernel
theorem dX8_soonest_206 : decode cX8_soonest 206 = .ok (.iload 8, 2) := by decide +kernel
theorem dX8_soonest_208 : decode cX8_soonest 208 = .ok (.iadd, 1) := by decide +kernel
theorem dX8_soonest_209 : decode cX8_soonest 209 = .ok (.iaload, 1) := by decide +kernel
theorem dX8_soonest_210 : decode cX8_soonest 210 = .ok (.iload_n 2, 1) := by decide +kernel
theorem dX8_soonest_211 : decode cX8_soonest 211 = .ok (.if_icmp .ne 42, 3) := by decide +kernel
theorem dX8_soonest_214 : decode cX8_soonest 214 = .ok (.iload 6, 2) := by decide +kernel
theorem dX8_soonest_216 : decode cX8_soonest 216 = .ok (.iconst (-1), 1) := by decide +kernel
theorem dX8_soonest_217 : decode cX8_soonest 217 = .ok (.if_icmp .eq 21, 3) := by decide +kernel
theorem dX8_soonest_220 : decode cX8_soonest 220 = .ok (.aload_n 0, 1) := by decide +kernel
theorem dX8_soonest_221 : decode cX8_soonest 221 = .ok (.getfield 23, 3) := by decide +kernel
theorem dX8_soonest_224 : decode cX8_soonest 224 = .ok (.bipush 7, 2) := by decide +kernel
theorem dX8_soonest_226 : decode cX8_soonest 226 = .ok (.iload 7, 2) := by decide +kernel
theorem dX8_soonest_228 : decode cX8_soonest 228 = .ok (.imul, 1) := by decide +kernel
theorem dX8_soonest_229 : decode cX8_soonest 229 = .ok (.iload 8, 2) := by decide +kernel
theorem dX8_soonest_231 : decode cX8_soonest 231 = .ok (.iadd, 1) := by decide +kernel
theorem dX8_soonest_232 : decode cX8_soonest 232 = .ok (.iaload, 1) := by decide +kernel
theorem dX8_soonest_233 : decode cX8_soonest 233 = .ok (.iload 6, 2) := by decide +kernel
theorem dX8_soonest_235 : decode cX8_soonest 235 = .ok (.if_icmp .ge 18, 3) := by decide +kernel
theorem dX8_soonest_238 : decode cX8_soonest 238 = .ok (.aload_n 0, 1) := by decide +kernel
theorem dX8_soonest_239 : decode cX8_soonest 239 = .ok (.getfield 23, 3) := by decide +kernel
theorem dX8_soonest_242 : decode cX8_soonest 242 = .ok (.bipush 7, 2) := by decide +kernel
theorem dX8_soonest_244 : decode cX8_soonest 244 = .ok (.iload 7, 2) := by decide +kernel
theorem dX8_soonest_246 : decode cX8_soonest 246 = .ok (.imul, 1) := by decide +kernel
theorem dX8_soonest_247 : decode cX8_soonest 247 = .ok (.iload 8, 2) := by decide +kernel
theorem dX8_soonest_249 : decode cX8_soonest 249 = .ok (.iadd, 1) := by decide +kernel
theorem dX8_soonest_250 : decode cX8_soonest 250 = .ok (.iaload, 1) := by decide +kernel
theorem dX8_soonest_251 : decode cX8_soonest 251 = .ok (.istore 6, 2) := by decide +kernel
theorem dX8_soonest_253 : decode cX8_soonest 253 = .ok (.iinc 8 1, 3) := by decide +kernel
theorem dX8_soonest_256 : decode cX8_soonest 256 = .ok (.goto (-87), 3) := by decide +kernel
theorem dX8_soonest_259 : decode cX8_soonest 259 = .ok (.iinc 7 1, 3) := by decide +kernel
theorem dX8_soonest_262 : decode cX8_soonest 262 = .ok (.goto (-105), 3) := by decide +kernel
theorem dX8_soonest_265 : decode cX8_soonest 265 = .ok (.iload 6, 2) := by decide +kernel
theorem dX8_soonest_267 : decode cX8_soonest 267 = .ok (.ireturn, 1) := by decide +kernel
theorem dX8_findRest_0 : decode cX8_findRest 0 = .ok (.iconst 0, 1) := by decide +kernel
theorem dX8_findRest_1 : decode cX8_findRest 1 = .ok (.istore_n 3, 1) := by decide +kernel
theorem dX8_findRest_2 : decode cX8_findRest 2 = .ok (.iload_n 3, 1) := by decide +kernel
theorem dX8_findRest_3 : decode cX8_findRest 3 = .ok (.sipush 770, 3) := by decide +kernel
theorem dX8_findRest_6 : decode cX8_findRest 6 = .ok (.if_icmp .ge 16, 3) := by decide +kernel
theorem dX8_findRest_9 : decode cX8_findRest 9 = .ok (.aload_n 0, 1) := by decide +kernel
theorem dX8_findRest_10 : decode cX8_findRest 10 = .ok (.getfield 70, 3) := by decide +kernel
theorem dX8_findRest_13 : decode cX8_findRest 13 = .ok (.iload_n 3, 1) := by decide +kernel
theorem dX8_findRest_14 : decode cX8_findRest 14 = .ok (.iconst 0, 1) := by decide +kernel
theorem dX8_findRest_15 : decode cX8_findRest 15 = .ok (.bastore, 1) := by decide +kernel
theorem dX8_findRest_16 : decode cX8_findRest 16 = .ok (.iinc 3 1, 3) := by decide +kernel
theorem dX8_findRest_19 : decode cX8_findRest 19 = .ok (.goto (-17), 3) := by decide +kernel
theorem dX8_findRest_22 : decode cX8_findRest 22 = .ok (.iconst 0, 1) := by decide +kernel
theorem dX8_findRest_23 : decode cX8_findRest 23 = .ok (.istore_n 3, 1) := by decide +kernel
theorem dX8_findRest_24 : decode cX8_findRest 24 = .ok (.iload_n 3, 1) := by decide +kernel
theorem dX8_findRest_25 : decode cX8_findRest 25 = .ok (.bipush 11, 2) := by decide +kernel
theorem dX8_findRest_27 : decode cX8_findRest 27 = .ok (.if_icmp .ge 127, 3) := by decide +kernel
theorem dX8_findRest_30 : decode cX8_findRest 30 = .ok (.iconst 0, 1) := by decide +kernel
theorem dX8_findRest_31 : decode cX8_findRest 31 = .ok (.istore 4, 2) := by decide +kernel
theorem dX8_findRest_33 : decode cX8_findRest 33 = .ok (.iload 4, 2) := by decide +kernel
theorem dX8_findRest_35 : decode cX8_findRest 35 = .ok (.aload_n 0, 1) := by decide +kernel
theorem dX8_findRest_36 : decode cX8_findRest 36 = .ok (.getfield 97, 3) := by decide +kernel
theorem dX8_findRest_39 : decode cX8_findRest 39 = .ok (.if_icmp .ge 109, 3) := by decide +kernel
theorem dX8_findRest_42 : decode cX8_findRest 42 = .ok (.iconst 1, 1) := by decide +kernel
theorem dX8_findRest_43 : decode cX8_findRest 43 = .ok (.istore 5, 2) := by decide +kernel
theorem dX8_findRest_45 : decode cX8_findRest 45 = .ok (.iload 5, 2) := by decide +kernel
theorem dX8_findRest_47 : decode cX8_findRest 47 = .ok (.aload_n 0, 1) := by decide +kernel
theorem dX8_findRest_48 : decode cX8_findRest 48 = .ok (.getfield 17, 3) := by decide +kernel
theorem dX8_findRest_51 : decode cX8_findRest 51 = .ok (.iload 4, 2) := by decide +kernel
theorem dX8_findRest_53 : decode cX8_findRest 53 = .ok (.iaload, 1) := by decide +kernel
theorem dX8_findRest_54 : decode cX8_findRest 54 = .ok (.if_icmp .ge 88, 3) := by decide +kernel
theorem dX8_findRest_57 : decode cX8_findRest 57 = .ok (.aload_n 0, 1) := by decide +kernel
theorem dX8_findRest_58 : decode cX8_findRest 58 = .ok (.iload 4, 2) := by decide +kernel
theorem dX8_findRest_60 : decode cX8_findRest 60 = .ok (.iload_n 2, 1) := by decide +kernel
theorem dX8_findRest_61 : decode cX8_findRest 61 = .ok (.invokevirtual 179, 3) := by decide +kernel
theorem dX8_findRest_64 : decode cX8_findRest 64 = .ok (.ifCond .eq 78, 3) := by decide +kernel
theorem dX8_findRest_67 : decode cX8_findRest 67 = .ok (.bipush 7, 2) := by decide +kernel
theorem dX8_findRest_69 : decode cX8_findRest 69 = .ok (.iload 4, 2) := by decide +kernel
theorem dX8_findRest_71 : decode cX8_findRest 71 = .ok (.imul, 1) := by decide +kernel
theorem dX8_findRest_72 : decode cX8_findRest 72 = .ok (.iload 5, 2) := by decide +kernel
theorem dX8_findRest_74 : decode cX8_findRest 74 = .ok (.iadd, 1) := by decide +kernel
theorem dX8_findRest_75 : decode cX8_findRest 75 = .ok (.istore 6, 2) := by decide +kernel
theorem dX8_findRest_77 : decode cX8_findRest 77 = .ok (.aload_n 0, 1) := by decide +kernel
theorem dX8_findRest_78 : decode cX8_findRest 78 = .ok (.getfield 70, 3) := by decide +kernel
theorem dX8_findRest_81 : decode cX8_findRest 81 = .ok (.bipush 70, 2) := by decide +kernel
theorem dX8_findRest_83 : decode cX8_findRest 83 = .ok (.iload_n 3, 1) := by decide +kernel
theorem dX8_findRest_84 : decode cX8_findRest 84 = .ok (.imul, 1) := by decide +kernel
theorem dX8_findRest_85 : decode cX8_findRest 85 = .ok (.iload 6, 2) := by decide +kernel
theorem dX8_findRest_87 : decode cX8_findRest 87 = .ok (.iadd, 1) := by decide +kernel
theorem dX8_findRest_88 : decode cX8_findRest 88 = .ok (.iload_n 3, 1) := by decide +kernel
theorem dX8_findRest_89 : decode cX8_findRest 89 = .ok (.ifCond .ne 36, 3) := by decide +kernel
theorem dX8_findRest_92 : decode cX8_findRest 92 = .ok (.aload_n 0, 1) := by decide +kernel
theorem dX8_findRest_93 : decode cX8_findRest 93 = .ok (.getfield 20, 3) := by decide +kernel
theorem dX8_findRest_96 : decode cX8_findRest 96 = .ok (.iload 6, 2) := by decide +kernel
theorem dX8_findRest_98 : decode cX8_findRest 98 = .ok (.iaload, 1) := by decide +kernel
theorem dX8_findRest_99 : decode cX8_findRest 99 = .ok (.iload_n 1, 1) := by decide +kernel
theorem dX8_findRest_100 : decode cX8_findRest 100 = .ok (.if_icmp .ne 21, 3) := by decide +kernel
theorem dX8_findRest_103 : decode cX8_findRest 103 = .ok (.aload_n 0, 1) := by decide +kernel
theorem dX8_findRest_104 : decode cX8_findRest 104 = .ok (.getfield 23, 3) := by decide +kernel
theorem dX8_findRest_107 : decode cX8_findRest 107 = .ok (.iload 6, 2) := by decide +kernel
theorem dX8_findRest_109 : decode cX8_findRest 109 = .ok (.iaload, 1) := by decide +kernel
theorem dX8_findRest_110 : decode cX8_findRest 110 = .ok (.aload_n 0, 1) := by decide +kernel
theorem dX8_findRest_111 : decode cX8_findRest 111 = .ok (.getfield 189, 3) := by decide +kernel
theorem dX8_findRest_114 : decode cX8_findRest 114 = .ok (.if_icmp .ne 7, 3) := by decide +kernel
theorem dX8_findRest_117 : decode cX8_findRest 117 = .ok (.iconst 1, 1) := by decide +kernel
theorem dX8_findRest_118 : decode cX8_findRest 118 = .ok (.goto 17, 3) := by decide +kernel
theorem dX8_findRest_121 : decode cX8_findRest 121 = .ok (.iconst 0, 1) := by decide +kernel
theorem dX8_findRest_122 : decode cX8_findRest 122 = .ok (.goto 13, 3) := by decide +kernel
theorem dX8_findRest_125 : decode cX8_findRest 125 = .ok (.aload_n 0, 1) := by decide +kernel
theorem dX8_findRest_126 : decode cX8_findRest 126 = .ok (.iload 6, 2) := by decide +kernel
theorem dX8_findRest_128 : decode cX8_findRest 128 = .ok (.iload_n 3, 1) := by decide +kernel
theorem dX8_findRest_129 : decode cX8_findRest 129 = .ok (.iconst 1, 1) := by decide +kernel
theorem dX8_findRest_130 : decode cX8_findRest 130 = .ok (.isub, 1) := by decide +kernel
theorem dX8_findRest_131 : decode cX8_findRest 131 = .ok (.iload_n 2, 1) := by decide +kernel
theorem dX8_findRest_132 : decode cX8_findRest 132 = .ok (.invokevirtual 192, 3) := by decide +kernel
theorem dX8_findRest_135 : decode cX8_findRest 135 = .ok (.bastore, 1) := by decide +kernel
theorem dX8_findRest_136 : decode cX8_findRest 136 = .ok (.iinc 5 1, 3) := by decide +kernel
theorem dX8_findRest_139 : decode cX8_findRest 139 = .ok (.goto (-94), 3) := by decide +kernel
theorem dX8_findRest_142 : decode cX8_findRest 142 = .ok (.iinc 4 1, 3) := by decide +kernel
theorem dX8_findRest_145 : decode cX8_findRest 145 = .ok (.goto (-112), 3) := by decide +kernel
theorem dX8_findRest_148 : decode cX8_findRest 148 = .ok (.iinc 3 1, 3) := by decide +kernel
theorem dX8_findRest_151 : decode cX8_findRest 151 = .ok (.goto (-127), 3) := by decide +kernel
theorem dX8_findRest_154 : decode cX8_findRest 154 = .ok (.return_, 1) := by decide +kernel
theorem dX8_canGoOn_0 : decode cX8_canGoOn 0 = .ok (.iconst 0, 1) := by decide +kernel
theorem dX8_canGoOn_1 : decode cX8_canGoOn 1 = .ok (.istore 4, 2) := by decide +kernel
theorem dX8_canGoOn_3 : decode cX8_canGoOn 3 = .ok (.iload 4, 2) := by decide +kernel
theorem dX8_canGoOn_5 : decode cX8_canGoOn 5 = .ok (.aload_n 0, 1) := by decide +kernel
theorem dX8_canGoOn_6 : decode cX8_canGoOn 6 = .ok (.getfield 97, 3) := by decide +kernel
theorem dX8_canGoOn_9 : decode cX8_canGoOn 9 = .ok (.if_icmp .ge 102, 3) := by decide +kernel
theorem dX8_canGoOn_12 : decode cX8_canGoOn 12 = .ok (.aload_n 0, 1) := by decide +kernel
theorem dX8_canGoOn_13 : decode cX8_canGoOn 13 = .ok (.iload 4, 2) := by decide +kernel
theorem dX8_canGoOn_15 : decode cX8_canGoOn 15 = .ok (.iload_n 3, 1) := by decide +kernel
theorem dX8_canGoOn_16 : decode cX8_canGoOn 16 = .ok (.invokevirtual 179, 3) := by decide +kernel
theorem dX8_canGoOn_19 : decode cX8_canGoOn 19 = .ok (.ifCond .ne 6, 3) := by decide +kernel
theorem dX8_canGoOn_22 : decode cX8_canGoOn 22 = .ok (.goto 83, 3) := by decide +kernel
theorem dX8_canGoOn_25 : decode cX8_canGoOn 25 = .ok (.iconst 0, 1) := by decide +kernel
theorem dX8_canGoOn_26 : decode cX8_canGoOn 26 = .ok (.istore 5, 2) := by decide +kernel
theorem dX8_canGoOn_28 : decode cX8_canGoOn 28 = .ok (.iconst 0, 1) := by decide +kernel
theorem dX8_canGoOn_29 : decode cX8_canGoOn 29 = .ok (.istore 6, 2) := by decide +kernel
theorem dX8_canGoOn_31 : decode cX8_canGoOn 31 = .ok (.iload 6, 2) := by decide +kernel
theorem dX8_canGoOn_33 : decode cX8_canGoOn 33 = .ok (.aload_n 0, 1) := by decide +kernel
theorem dX8_canGoOn_34 : decode cX8_canGoOn 34 = .ok (.getfield 17, 3) := by decide +kernel
theorem dX8_canGoOn_37 : decode cX8_canGoOn 37 = .ok (.iload 4, 2) := by decide +kernel
theorem dX8_canGoOn_39 : decode cX8_canGoOn 39 = .ok (.iaload, 1) := by decide +kernel
theorem dX8_canGoOn_40 : decode cX8_canGoOn 40 = .ok (.if_icmp .ge 65, 3) := by decide +kernel
theorem dX8_canGoOn_43 : decode cX8_canGoOn 43 = .ok (.iload 5, 2) := by decide +kernel
theorem dX8_canGoOn_45 : decode cX8_canGoOn 45 = .ok (.ifCond .eq 26, 3) := by decide +kernel
theorem dX8_canGoOn_48 : decode cX8_canGoOn 48 = .ok (.aload_n 0, 1) := by decide +kernel
theorem dX8_canGoOn_49 : decode cX8_canGoOn 49 = .ok (.getfield 70, 3) := by decide +kernel
theorem dX8_canGoOn_52 : decode cX8_canGoOn 52 = .ok (.bipush 70, 2) := by decide +kernel
theorem dX8_canGoOn_54 : decode cX8_canGoOn 54 = .ok (.iload_n 2, 1) := by decide +kernel
theorem dX8_canGoOn_55 : decode cX8_canGoOn 55 = .ok (.imul, 1) := by decide +kernel
theorem dX8_canGoOn_56 : decode cX8_canGoOn 56 = .ok (.bipush 7, 2) := by decide +kernel
theorem dX8_canGoOn_58 : decode cX8_canGoOn 58 = .ok (.iload 4, 2) := by decide +kernel
theorem dX8_canGoOn_60 : decode cX8_canGoOn 60 = .ok (.imul, 1) := by decide +kernel
theorem dX8_canGoOn_61 : decode cX8_canGoOn 61 = .ok (.iadd, 1) := by decide +kernel
theorem dX8_canGoOn_62 : decode cX8_canGoOn 62 = .ok (.iload 6, 2) := by decide +kernel
theorem dX8_canGoOn_64 : decode cX8_canGoOn 64 = .ok (.iadd, 1) := by decide +kernel
theorem dX8_canGoOn_65 : decode cX8_canGoOn 65 = .ok (.baload, 1) := by decide +kernel
theorem dX8_canGoOn_66 : decode cX8_canGoOn 66 = .ok (.ifCond .eq 5, 3) := by decide +kernel
theorem dX8_canGoOn_69 : decode cX8_canGoOn 69 = .ok (.iconst 1, 1) := by decide +kernel
theorem dX8_canGoOn_70 : decode cX8_canGoOn 70 = .ok (.ireturn, 1) := by decide +kernel
theorem dX8_canGoOn_71 : decode cX8_canGoOn 71 = .ok (.iload 5, 2) := by decide +kernel
theorem dX8_canGoOn_73 : decode cX8_canGoOn 73 = .ok (.ifCond .ne 19, 3) := by decide +kernel
theorem dX8_canGoOn_76 : decode cX8_canGoOn 76 = .ok (.aload_n 0, 1) := by decide +kernel
theorem dX8_canGoOn_77 : decode cX8_canGoOn 77 = .ok (.iload_n 1, 1) := by decide +kernel
theorem dX8_canGoOn_78 : decode cX8_canGoOn 78 = .ok (.bipush 7, 2) := by decide +kernel
theorem dX8_canGoOn_80 : decode cX8_canGoOn 80 = .ok (.iload 4, 2) := by decide +kernel
theorem dX8_canGoOn_82 : decode cX8_canGoOn 82 = .ok (.imul, 1) := by decide +kernel
theorem dX8_canGoOn_83 : decode cX8_canGoOn 83 = .ok (.iload 6, 2) := by decide +kernel
theorem dX8_canGoOn_85 : decode cX8_canGoOn 85 = .ok (.iadd, 1) := by decide +kernel
theorem dX8_canGoOn_86 : decode cX8_canGoOn 86 = .ok (.invokevirtual 182, 3) := by decide +kernel
theorem dX8_canGoOn_89 : decode cX8_canGoOn 89 = .ok (.ifCond .eq 7, 3) := by decide +kernel
theorem dX8_canGoOn_92 : decode cX8_canGoOn 92 = .ok (.iconst 1, 1) := by decide +kernel
theorem dX8_canGoOn_93 : decode cX8_canGoOn 93 = .ok (.goto 4, 3) := by decide +kernel
theorem dX8_canGoOn_96 : decode cX8_canGoOn 96 = .ok (.iconst 0, 1) := by decide +kernel
theorem dX8_canGoOn_97 : decode cX8_canGoOn 97 = .ok (.istore 5, 2) := by decide +kernel
theorem dX8_canGoOn_99 : decode cX8_canGoOn 99 = .ok (.iinc 6 1, 3) := by decide +kernel
theorem dX8_canGoOn_102 : decode cX8_canGoOn 102 = .ok (.goto (-71), 3) := by decide +kernel
theorem dX8_canGoOn_105 : decode cX8_canGoOn 105 = .ok (.iinc 4 1, 3) := by decide +kernel
theorem dX8_canGoOn_108 : decode cX8_canGoOn 108 = .ok (.goto (-105), 3) := by decide +kernel
theorem dX8_canGoOn_111 : decode cX8_canGoOn 111 = .ok (.iconst 0, 1) := by decide +kernel
theorem dX8_canGoOn_112 : decode cX8_canGoOn 112 = .ok (.ireturn, 1) := by decide +kernel
theorem dX8_canBoard_0 : decode cX8_canBoard 0 = .ok (.iload_n 2, 1) := by decide +kernel
theorem dX8_canBoard_1 : decode cX8_canBoard 1 = .ok (.ifCond .eq 30, 3) := by decide +kernel
theorem dX8_canBoard_4 : decode cX8_canBoard 4 = .ok (.aload_n 0, 1) := by decide +kernel
theorem dX8_canBoard_5 : decode cX8_canBoard 5 = .ok (.getfield 20, 3) := by decide +kernel
theorem dX8_canBoard_8 : decode cX8_canBoard 8 = .ok (.iload_n 1, 1) := by decide +kernel
theorem dX8_canBoard_9 : decode cX8_canBoard 9 = .ok (.iaload, 1) := by decide +kernel
theorem dX8_canBoard_10 : decode cX8_canBoard 10 = .ok (.iload_n 3, 1) := by decide +kernel
theorem dX8_canBoard_11 : decode cX8_canBoard 11 = .ok (.if_icmp .ne 18, 3) := by decide +kernel
theorem dX8_canBoard_14 : decode cX8_canBoard 14 = .ok (.aload_n 0, 1) := by decide +kernel
theorem dX8_canBoard_15 : decode cX8_canBoard 15 = .ok (.getfield 26, 3) := by decide +kernel
theorem dX8_canBoard_18 : decode cX8_canBoard 18 = .ok (.iload_n 1, 1) := by decide +kernel
theorem dX8_canBoard_19 : decode cX8_canBoard 19 = .ok (.iaload, 1) := by decide +kernel
theorem dX8_canBoard_20 : decode cX8_canBoard 20 = .ok (.iload 4, 2) := by decide +kernel
theorem dX8_canBoard_22 : decode cX8_canBoard 22 = .ok (.if_icmp .lt 7, 3) := by decide +kernel
theorem dX8_canBoard_25 : decode cX8_canBoard 25 = .ok (.iconst 1, 1) := by decide +kernel
theorem dX8_canBoard_26 : decode cX8_canBoard 26 = .ok (.goto 4, 3) := by decide +kernel
theorem dX8_canBoard_29 : decode cX8_canBoard 29 = .ok (.iconst 0, 1) := by decide +kernel
theorem dX8_canBoard_30 : decode cX8_canBoard 30 = .ok (.ireturn, 1) := by decide +kernel
theorem dX8_canBoard_31 : decode cX8_canBoard 31 = .ok (.iconst 0, 1) := by decide +kernel
theorem dX8_canBoard_32 : decode cX8_canBoard 32 = .ok (.istore 5, 2) := by decide +kernel
theorem dX8_canBoard_34 : decode cX8_canBoard 34 = .ok (.iload 5, 2) := by decide +kernel
theorem dX8_canBoard_36 : decode cX8_canBoard 36 = .ok (.bipush 70, 2) := by decide +kernel
theorem dX8_canBoard_38 : decode cX8_canBoard 38 = .ok (.if_icmp .ge 31, 3) := by decide +kernel
theorem dX8_canBoard_41 : decode cX8_canBoard 41 = .ok (.aload_n 0, 1) := by decide +kernel
theorem dX8_canBoard_42 : decode cX8_canBoard 42 = .ok (.getfield 82, 3) := by decide +kernel
theorem dX8_canBoard_45 : decode cX8_canBoard 45 = .ok (.iload 5, 2) := by decide +kernel
theorem dX8_canBoard_47 : decode cX8_canBoard 47 = .ok (.baload, 1) := by decide +kernel
theorem dX8_canBoard_48 : decode cX8_canBoard 48 = .ok (.ifCond .eq 15, 3) := by decide +kernel
theorem dX8_canBoard_51 : decode cX8_canBoard 51 = .ok (.aload_n 0, 1) := by decide +kernel
theorem dX8_canBoard_52 : decode cX8_canBoard 52 = .ok (.iload 5, 2) := by decide +kernel
theorem dX8_canBoard_54 : decode cX8_canBoard 54 = .ok (.iload_n 1, 1) := by decide +kernel
theorem dX8_canBoard_55 : decode cX8_canBoard 55 = .ok (.invokevirtual 182, 3) := by decide +kernel
theorem dX8_canBoard_58 : decode cX8_canBoard 58 = .ok (.ifCond .eq 5, 3) := by decide +kernel
theorem dX8_canBoard_61 : decode cX8_canBoard 61 = .ok (.iconst 1, 1) := by decide +kernel
theorem dX8_canBoard_62 : decode cX8_canBoard 62 = .ok (.ireturn, 1) := by decide +kernel
theorem dX8_canBoard_63 : decode cX8_canBoard 63 = .ok (.iinc 5 1, 3) := by decide +kernel
theorem dX8_canBoard_66 : decode cX8_canBoard 66 = .ok (.goto (-32), 3) := by decide +kernel
theorem dX8_canBoard_69 : decode cX8_canBoard 69 = .ok (.iconst 0, 1) := by decide +kernel
theorem dX8_canBoard_70 : decode cX8_canBoard 70 = .ok (.ireturn, 1) := by decide +kernel
theorem dX8_leavesAt_0 : decode cX8_leavesAt 0 = .ok (.iconst 0, 1) := by decide +kernel
theorem dX8_leavesAt_1 : decode cX8_leavesAt 1 = .ok (.istore 6, 2) := by decide +kernel
theorem dX8_leavesAt_3 : decode cX8_leavesAt 3 = .ok (.iload 6, 2) := by decide +kernel
theorem dX8_leavesAt_5 : decode cX8_leavesAt 5 = .ok (.bipush 70, 2) := by decide +kernel
theorem dX8_leavesAt_7 : decode cX8_leavesAt 7 = .ok (.if_icmp .ge 17, 3) := by decide +kernel
theorem dX8_leavesAt_10 : decode cX8_leavesAt 10 = .ok (.aload_n 0, 1) := by decide +kernel
theorem dX8_leavesAt_11 : decode cX8_leavesAt 11 = .ok (.getfield 85, 3) := by decide +kernel
theorem dX8_leavesAt_14 : decode cX8_leavesAt 14 = .ok (.iload 6, 2) := by decide +kernel
theorem dX8_leavesAt_16 : decode cX8_leavesAt 16 = .ok (.iconst 0, 1) := by decide +kernel
theorem dX8_leavesAt_17 : decode cX8_leavesAt 17 = .ok (.bastore, 1) := by decide +kernel
theorem dX8_leavesAt_18 : decode cX8_leavesAt 18 = .ok (.iinc 6 1, 3) := by decide +kernel
theorem dX8_leavesAt_21 : decode cX8_leavesAt 21 = .ok (.goto (-18), 3) := by decide +kernel
theorem dX8_leavesAt_24 : decode cX8_leavesAt 24 = .ok (.iconst 0, 1) := by decide +kernel
theorem dX8_leavesAt_25 : decode cX8_leavesAt 25 = .ok (.istore 6, 2) := by decide +kernel
theorem dX8_leavesAt_27 : decode cX8_leavesAt 27 = .ok (.iconst 0, 1) := by decide +kernel
theorem dX8_leavesAt_28 : decode cX8_leavesAt 28 = .ok (.istore 7, 2) := by decide +kernel
theorem dX8_leavesAt_30 : decode cX8_leavesAt 30 = .ok (.iconst 0, 1) := by decide +kernel
theorem dX8_leavesAt_31 : decode cX8_leavesAt 31 = .ok (.istore 8, 2) := by decide +kernel
theorem dX8_leavesAt_33 : decode cX8_leavesAt 33 = .ok (.iload 8, 2) := by decide +kernel
theorem dX8_leavesAt_35 : decode cX8_leavesAt 35 = .ok (.aload_n 0, 1) := by decide +kernel
theorem dX8_leavesAt_36 : decode cX8_leavesAt 36 = .ok (.getfield 17, 3) := by decide +kernel
theorem dX8_leavesAt_39 : decode cX8_leavesAt 39 = .ok (.iload_n 1, 1) := by decide +kernel
theorem dX8_leavesAt_40 : decode cX8_leavesAt 40 = .ok (.iaload, 1) := by decide +kernel
theorem dX8_leavesAt_41 : decode cX8_leavesAt 41 = .ok (.if_icmp .ge 75, 3) := by decide +kernel
theorem dX8_leavesAt_44 : decode cX8_leavesAt 44 = .ok (.bipush 7, 2) := by decide +kernel
theorem dX8_leavesAt_46 : decode cX8_leavesAt 46 = .ok (.iload_n 1, 1) := by decide +kernel
theorem dX8_leavesAt_47 : decode cX8_leavesAt 47 = .ok (.imul, 1) := by decide +kernel
theorem dX8_leavesAt_48 : decode cX8_leavesAt 48 = .ok (.iload 8, 2) := by decide +kernel
theorem dX8_leavesAt_50 : decode cX8_leavesAt 50 = .ok (.iadd, 1) := by decide +kernel
theorem dX8_leavesAt_51 : decode cX8_leavesAt 51 = .ok (.istore 9, 2) := by decide +kernel
theorem dX8_leavesAt_53 : decode cX8_leavesAt 53 = .ok (.iload 6, 2) := by decide +kernel
theorem dX8_leavesAt_55 : decode cX8_leavesAt 55 = .ok (.ifCond .eq 30, 3) := by decide +kernel
theorem dX8_leavesAt_58 : decode cX8_leavesAt 58 = .ok (.aload_n 0, 1) := by decide +kernel
theorem dX8_leavesAt_59 : decode cX8_leavesAt 59 = .ok (.getfield 70, 3) := by decide +kernel
theorem dX8_leavesAt_62 : decode cX8_leavesAt 62 = .ok (.bipush 70, 2) := by decide +kernel
theorem dX8_leavesAt_64 : decode cX8_leavesAt 64 = .ok (.iload 5, 2) := by decide +kernel
theorem dX8_leavesAt_66 : decode cX8_leavesAt 66 = .ok (.imul, 1) := by decide +kernel
theorem dX8_leavesAt_67 : decode cX8_leavesAt 67 = .ok (.iload 9, 2) := by decide +kernel
theorem dX8_leavesAt_69 : decode cX8_leavesAt 69 = .ok (.iadd, 1) := by decide +kernel
theorem dX8_leavesAt_70 : decode cX8_leavesAt 70 = .ok (.baload, 1) := by decide +kernel
theorem dX8_leavesAt_71 : decode cX8_leavesAt 71 = .ok (.ifCond .eq 14, 3) := by decide +kernel
theorem dX8_leavesAt_74 : decode cX8_leavesAt 74 = .ok (.aload_n 0, 1) := by decide +kernel
theorem dX8_leavesAt_75 : decode cX8_leavesAt 75 = .ok (.getfield 85, 3) := by decide +kernel
theorem dX8_leavesAt_78 : decode cX8_leavesAt 78 = .ok (.iload 9, 2) := by decide +kernel
theorem dX8_leavesAt_80 : decode cX8_leavesAt 80 = .ok (.iconst 1, 1) := by decide +kernel
theorem dX8_leavesAt_81 : decode cX8_leavesAt 81 = .ok (.bastore, 1) := by decide +kernel
theorem dX8_leavesAt_82 : decode cX8_leavesAt 82 = .ok (.iconst 1, 1) := by decide +kernel
theorem dX8_leavesAt_83 : decode cX8_leavesAt 83 = .ok (.istore 7, 2) := by decide +kernel
theorem dX8_leavesAt_85 : decode cX8_leavesAt 85 = .ok (.iload 6, 2) := by decide +kernel
theorem dX8_leavesAt_87 : decode cX8_leavesAt 87 = .ok (.ifCond .ne 16, 3) := by decide +kernel
theorem dX8_leavesAt_90 : decode cX8_leavesAt 90 = .ok (.aload_n 0, 1) := by decide +kernel
theorem dX8_leavesAt_91 : decode cX8_leavesAt 91 = .ok (.iload 9, 2) := by decide +kernel
theorem dX8_leavesAt_93 : decode cX8_leavesAt 93 = .ok (.iload_n 2, 1) := by decide +kernel
theorem dX8_leavesAt_94 : decode cX8_leavesAt 94 = .ok (.iload_n 3, 1) := by decide +kernel
theorem dX8_leavesAt_95 : decode cX8_leavesAt 95 = .ok (.iload 4, 2) := by decide +kernel
theorem dX8_leavesAt_97 : decode cX8_leavesAt 97 = .ok (.invokevirtual 196, 3) := by decide +kernel
theorem dX8_leavesAt_100 : decode cX8_leavesAt 100 = .ok (.ifCond .eq 7, 3) := by decide +kernel
theorem dX8_leavesAt_103 : decode cX8_leavesAt 103 = .ok (.iconst 1, 1) := by decide +kernel
theorem dX8_leavesAt_104 : decode cX8_leavesAt 104 = .ok (.goto 4, 3) := by decide +kernel
theorem dX8_leavesAt_107 : decode cX8_leavesAt 107 = .ok (.iconst 0, 1) := by decide +kernel
theorem dX8_leavesAt_108 : decode cX8_leavesAt 108 = .ok (.istore 6, 2) := by decide +kernel
theorem dX8_leavesAt_110 : decode cX8_leavesAt 110 = .ok (.iinc 8 1, 3) := by decide +kernel
theorem dX8_leavesAt_113 : decode cX8_leavesAt 113 = .ok (.goto (-80), 3) := by decide +kernel
theorem dX8_leavesAt_116 : decode cX8_leavesAt 116 = .ok (.iload 7, 2) := by decide +kernel
theorem dX8_leavesAt_118 : decode cX8_leavesAt 118 = .ok (.ireturn, 1) := by decide +kernel
theorem dX8_firstTrain_0 : decode cX8_firstTrain 0 = .ok (.iconst 0, 1) := by decide +kernel
theorem dX8_firstTrain_1 : decode cX8_firstTrain 1 = .ok (.istore 6, 2) := by decide +kernel
theorem dX8_firstTrain_3 : decode cX8_firstTrain 3 = .ok (.iload 6, 2) := by decide +kernel
theorem dX8_firstTrain_5 : decode cX8_firstTrain 5 = .ok (.aload_n 0, 1) := by decide +kernel
theorem dX8_firstTrain_6 : decode cX8_firstTrain 6 = .ok (.getfield 97, 3) := by decide +kernel
theorem dX8_firstTrain_9 : decode cX8_firstTrain 9 = .ok (.if_icmp .ge 37, 3) := by decide +kernel
theorem dX8_firstTrain_12 : decode cX8_firstTrain 12 = .ok (.aload_n 0, 1) := by decide +kernel
theorem dX8_firstTrain_13 : decode cX8_firstTrain 13 = .ok (.iload 6, 2) := by decide +kernel
theorem dX8_firstTrain_15 : decode cX8_firstTrain 15 = .ok (.iload_n 3, 1) := by decide +kernel
theorem dX8_firstTrain_16 : decode cX8_firstTrain 16 = .ok (.invokevirtual 179, 3) := by decide +kernel
theorem dX8_firstTrain_19 : decode cX8_firstTrain 19 = .ok (.ifCond .eq 21, 3) := by decide +kernel
theorem dX8_firstTrain_22 : decode cX8_firstTrain 22 = .ok (.aload_n 0, 1) := by decide +kernel
theorem dX8_firstTrain_23 : decode cX8_firstTrain 23 = .ok (.iload 6, 2) := by decide +kernel
theorem dX8_firstTrain_25 : decode cX8_firstTrain 25 = .ok (.iload_n 1, 1) := by decide +kernel
theorem dX8_firstTrain_26 : decode cX8_firstTrain 26 = .ok (.iload_n 2, 1) := by decide +kernel
theorem dX8_firstTrain_27 : decode cX8_firstTrain 27 = .ok (.iload 4, 2) := by decide +kernel
theorem dX8_firstTrain_29 : decode cX8_firstTrain 29 = .ok (.iload 5, 2) := by decide +kernel
theorem dX8_firstTrain_31 : decode cX8_firstTrain 31 = .ok (.invokevirtual 200, 3) := by decide +kernel
theorem dX8_firstTrain_34 : decode cX8_firstTrain 34 = .ok (.ifCond .eq 6, 3) := by decide +kernel
theorem dX8_firstTrain_37 : decode cX8_firstTrain 37 = .ok (.iload 6, 2) := by decide +kernel
theorem dX8_firstTrain_39 : decode cX8_firstTrain 39 = .ok (.ireturn, 1) := by decide +kernel
theorem dX8_firstTrain_40 : decode cX8_firstTrain 40 = .ok (.iinc 6 1, 3) := by decide +kernel
theorem dX8_firstTrain_43 : decode cX8_firstTrain 43 = .ok (.goto (-40), 3) := by decide +kernel
theorem dX8_firstTrain_46 : decode cX8_firstTrain 46 = .ok (.iconst (-1), 1) := by decide +kernel
theorem dX8_firstTrain_47 : decode cX8_firstTrain 47 = .ok (.ireturn, 1) := by decide +kernel
theorem dX8_finds_0 : decode cX8_finds 0 = .ok (.aload_n 0, 1) := by decide +kernel
theorem dX8_finds_1 : decode cX8_finds 1 = .ok (.iload_n 1, 1) := by decide +kernel
theorem dX8_finds_2 : decode cX8_finds 2 = .ok (.invokevirtual 107, 3) := by decide +kernel
theorem dX8_finds_5 : decode cX8_finds 5 = .ok (.ifCond .eq 35, 3) := by decide +kernel
theorem dX8_finds_8 : decode cX8_finds 8 = .ok (.aload_n 0, 1) := by decide +kernel
theorem dX8_finds_9 : decode cX8_finds 9 = .ok (.iload_n 2, 1) := by decide +kernel
theorem dX8_finds_10 : decode cX8_finds 10 = .ok (.invokevirtual 107, 3) := by decide +kernel
theorem dX8_finds_13 : decode cX8_finds 13 = .ok (.ifCond .eq 27, 3) := by decide +kernel
theorem dX8_finds_16 : decode cX8_finds 16 = .ok (.iload_n 1, 1) := by decide +kernel
theorem dX8_finds_17 : decode cX8_finds 17 = .ok (.iload_n 2, 1) := by decide +kernel
theorem dX8_finds_18 : decode cX8_finds 18 = .ok (.if_icmp .eq 22, 3) := by decide +kernel
theorem dX8_finds_21 : decode cX8_finds 21 = .ok (.iload_n 3, 1) := by decide +kernel
theorem dX8_finds_22 : decode cX8_finds 22 = .ok (.ifCond .lt 18, 3) := by decide +kernel
theorem dX8_finds_25 : decode cX8_finds 25 = .ok (.iload_n 3, 1) := by decide +kernel
theorem dX8_finds_26 : decode cX8_finds 26 = .ok (.bipush 6, 2) := by decide +kernel
theorem dX8_finds_28 : decode cX8_finds 28 = .ok (.if_icmp .gt 12, 3) := by decide +kernel
theorem dX8_finds_31 : decode cX8_finds 31 = .ok (.aload_n 0, 1) := by decide +kernel
theorem dX8_finds_32 : decode cX8_finds 32 = .ok (.iload 4, 2) := by decide +kernel
theorem dX8_finds_34 : decode cX8_finds 34 = .ok (.invokevirtual 110, 3) := by decide +kernel
theorem dX8_finds_37 : decode cX8_finds 37 = .ok (.ifCond .ne 5, 3) := by decide +kernel
theorem dX8_finds_40 : decode cX8_finds 40 = .ok (.iconst 0, 1) := by decide +kernel
theorem dX8_finds_41 : decode cX8_finds 41 = .ok (.ireturn, 1) := by decide +kernel
theorem dX8_finds_42 : decode cX8_finds 42 = .ok (.aload_n 0, 1) := by decide +kernel
theorem dX8_finds_43 : decode cX8_finds 43 = .ok (.aload_n 0, 1) := by decide +kernel
theorem dX8_finds_44 : decode cX8_finds 44 = .ok (.iload_n 1, 1) := by decide +kernel
theorem dX8_finds_45 : decode cX8_finds 45 = .ok (.iload_n 2, 1) := by decide +kernel
theorem dX8_finds_46 : decode cX8_finds 46 = .ok (.iload_n 3, 1) := by decide +kernel
theorem dX8_finds_47 : decode cX8_finds 47 = .ok (.iload 4, 2) := by decide +kernel
theorem dX8_finds_49 : decode cX8_finds 49 = .ok (.invokevirtual 204, 3) := by decide +kernel
theorem dX8_finds_52 : decode cX8_finds 52 = .ok (.putfield 189, 3) := by decide +kernel
theorem dX8_finds_55 : decode cX8_finds 55 = .ok (.aload_n 0, 1) := by decide +kernel
theorem dX8_finds_56 : decode cX8_finds 56 = .ok (.getfield 189, 3) := by decide +kernel
theorem dX8_finds_59 : decode cX8_finds 59 = .ok (.iconst (-1), 1) := by decide +kernel
theorem dX8_finds_60 : decode cX8_finds 60 = .ok (.if_icmp .ne 5, 3) := by decide +kernel
theorem dX8_finds_63 : decode cX8_finds 63 = .ok (.iconst 0, 1) := by decide +kernel
theorem dX8_finds_64 : decode cX8_finds 64 = .ok (.ireturn, 1) := by decide +kernel
theorem dX8_finds_65 : decode cX8_finds 65 = .ok (.aload_n 0, 1) := by decide +kernel
theorem dX8_finds_66 : decode cX8_finds 66 = .ok (.iload_n 2, 1) := by decide +kernel
theorem dX8_finds_67 : decode cX8_finds 67 = .ok (.iload_n 3, 1) := by decide +kernel
theorem dX8_finds_68 : decode cX8_finds 68 = .ok (.invokevirtual 208, 3) := by decide +kernel
theorem dX8_finds_71 : decode cX8_finds 71 = .ok (.aload_n 0, 1) := by decide +kernel
theorem dX8_finds_72 : decode cX8_finds 72 = .ok (.iconst 1, 1) := by decide +kernel
theorem dX8_finds_73 : decode cX8_finds 73 = .ok (.putfield 211, 3) := by decide +kernel
theorem dX8_finds_76 : decode cX8_finds 76 = .ok (.aload_n 0, 1) := by decide +kernel
theorem dX8_finds_77 : decode cX8_finds 77 = .ok (.iconst 1, 1) := by decide +kernel
theorem dX8_finds_78 : decode cX8_finds 78 = .ok (.iload_n 1, 1) := by decide +kernel
theorem dX8_finds_79 : decode cX8_finds 79 = .ok (.iload_n 3, 1) := by decide +kernel
theorem dX8_finds_80 : decode cX8_finds 80 = .ok (.iload 4, 2) := by decide +kernel
theorem dX8_finds_82 : decode cX8_finds 82 = .ok (.aload_n 0, 1) := by decide +kernel
theorem dX8_finds_83 : decode cX8_finds 83 = .ok (.getfield 211, 3) := by decide +kernel
theorem dX8_finds_86 : decode cX8_finds 86 = .ok (.iconst 1, 1) := by decide +kernel
theorem dX8_finds_87 : decode cX8_finds 87 = .ok (.isub, 1) := by decide +kernel
theorem dX8_finds_88 : decode cX8_finds 88 = .ok (.invokevirtual 214, 3) := by decide +kernel
theorem dX8_finds_91 : decode cX8_finds 91 = .ok (.iconst (-1), 1) := by decide +kernel
theorem dX8_finds_92 : decode cX8_finds 92 = .ok (.if_icmp .ne 16, 3) := by decide +kernel
theorem dX8_finds_95 : decode cX8_finds 95 = .ok (.aload_n 0, 1) := by decide +kernel
theorem dX8_finds_96 : decode cX8_finds 96 = .ok (.aload_n 0, 1) := by decide +kernel
theorem dX8_finds_97 : decode cX8_finds 97 = .ok (.getfield 211, 3) := by decide +kernel
theorem dX8_finds_100 : decode cX8_finds 100 = .ok (.iconst 1, 1) := by decide +kernel
theorem dX8_finds_101 : decode cX8_finds 101 = .ok (.iadd, 1) := by decide +kernel
theorem dX8_finds_102 : decode cX8_finds 102 = .ok (.putfield 211, 3) := by decide +kernel
theorem dX8_finds_105 : decode cX8_finds 105 = .ok (.goto (-29), 3) := by decide +kernel
theorem dX8_finds_108 : decode cX8_finds 108 = .ok (.iconst 0, 1) := by decide +kernel
theorem dX8_finds_109 : decode cX8_finds 109 = .ok (.istore 5, 2) := by decide +kernel
theorem dX8_finds_111 : decode cX8_finds 111 = .ok (.iload 5, 2) := by decide +kernel
theorem dX8_finds_113 : decode cX8_finds 113 = .ok (.aload_n 0, 1) := by decide +kernel
theorem dX8_finds_114 : decode cX8_finds 114 = .ok (.getfield 211, 3) := by decide +kernel
theorem dX8_finds_117 : decode cX8_finds 117 = .ok (.if_icmp .ge 73, 3) := by decide +kernel
theorem dX8_finds_120 : decode cX8_finds 120 = .ok (.aload_n 0, 1) := by decide +kernel
theorem dX8_finds_121 : decode cX8_finds 121 = .ok (.getfield 73, 3) := by decide +kernel
theorem dX8_finds_124 : decode cX8_finds 124 = .ok (.iload 5, 2) := by decide +kernel
theorem dX8_finds_126 : decode cX8_finds 126 = .ok (.aload_n 0, 1) := by decide +kernel
theorem dX8_finds_127 : decode cX8_finds 127 = .ok (.iload 5, 2) := by decide +kernel
theorem dX8_finds_129 : decode cX8_finds 129 = .ok (.ifCond .ne 7, 3) := by decide +kernel
theorem dX8_finds_132 : decode cX8_finds 132 = .ok (.iconst 1, 1) := by decide +kernel
theorem dX8_finds_133 : decode cX8_finds 133 = .ok (.goto 4, 3) := by decide +kernel
theorem dX8_finds_136 : decode cX8_finds 136 = .ok (.iconst 0, 1) := by decide +kernel
theorem dX8_finds_137 : decode cX8_finds 137 = .ok (.iload_n 1, 1) := by decide +kernel
theorem dX8_finds_138 : decode cX8_finds 138 = .ok (.iload_n 3, 1) := by decide +kernel
theorem dX8_finds_139 : decode cX8_finds 139 = .ok (.iload 4, 2) := by decide +kernel
theorem dX8_finds_141 : decode cX8_finds 141 = .ok (.aload_n 0, 1) := by decide +kernel
theorem dX8_finds_142 : decode cX8_finds 142 = .ok (.getfield 211, 3) := by decide +kernel
theorem dX8_finds_145 : decode cX8_finds 145 = .ok (.iconst 1, 1) := by decide +kernel
theorem dX8_finds_146 : decode cX8_finds 146 = .ok (.isub, 1) := by decide +kernel
theorem dX8_finds_147 : decode cX8_finds 147 = .ok (.iload 5, 2) := by decide +kernel
theorem dX8_finds_149 : decode cX8_finds 149 = .ok (.isub, 1) := by decide +kernel
theorem dX8_finds_150 : decode cX8_finds 150 = .ok (.invokevirtual 214, 3) := by decide +kernel
theorem dX8_finds_153 : decode cX8_finds 153 = .ok (.iastore, 1) := by decide +kernel
theorem dX8_finds_154 : decode cX8_finds 154 = .ok (.iconst 0, 1) := by decide +kernel
theorem dX8_finds_155 : decode cX8_finds 155 = .ok (.istore 6, 2) := by decide +kernel
theorem dX8_finds_157 : decode cX8_finds 157 = .ok (.iload 6, 2) := by decide +kernel
theorem dX8_finds_159 : decode cX8_finds 159 = .ok (.bipush 70, 2) := by decide +kernel
theorem dX8_finds_161 : decode cX8_finds 161 = .ok (.if_icmp .ge 23, 3) := by decide +kernel
theorem dX8_finds_164 : decode cX8_finds 164 = .ok (.aload_n 0, 1) := by decide +kernel
theorem dX8_finds_165 : decode cX8_finds 165 = .ok (.getfield 82, 3) := by decide +kernel
theorem dX8_finds_168 : decode cX8_finds 168 = .ok (.iload 6, 2) := by decide +kernel
theorem dX8_finds_170 : decode cX8_finds 170 = .ok (.aload_n 0, 1) := by decide +kernel
theorem dX8_finds_171 : decode cX8_finds 171 = .ok (.getfield 85, 3) := by decide +kernel
theorem dX8_finds_174 : decode cX8_finds 174 = .ok (.iload 6, 2) := by decide +kernel
theorem dX8_finds_176 : decode cX8_finds 176 = .ok (.baload, 1) := by decide +kernel
theorem dX8_finds_177 : decode cX8_finds 177 = .ok (.bastore, 1) := by decide +kernel
theorem dX8_finds_178 : decode cX8_finds 178 = .ok (.iinc 6 1, 3) := by decide +kernel
theorem dX8_finds_181 : decode cX8_finds 181 = .ok (.goto (-24), 3) := by decide +kernel
theorem dX8_finds_184 : decode cX8_finds 184 = .ok (.iinc 5 1, 3) := by decide +kernel
theorem dX8_finds_187 : decode cX8_finds 187 = .ok (.goto (-76), 3) := by decide +kernel
theorem dX8_finds_190 : decode cX8_finds 190 = .ok (.iconst (-1), 1) := by decide +kernel
theorem dX8_finds_191 : decode cX8_finds 191 = .ok (.istore 5, 2) := by decide +kernel
theorem dX8_finds_193 : decode cX8_finds 193 = .ok (.iconst 0, 1) := by decide +kernel
theorem dX8_finds_194 : decode cX8_finds 194 = .ok (.istore 6, 2) := by decide +kernel
theorem dX8_finds_196 : decode cX8_finds 196 = .ok (.iload 6, 2) := by decide +kernel
theorem dX8_finds_198 : decode cX8_finds 198 = .ok (.aload_n 0, 1) := by decide +kernel
theorem dX8_finds_199 : decode cX8_finds 199 = .ok (.getfield 211, 3) := by decide +kernel
theorem dX8_finds_202 : decode cX8_finds 202 = .ok (.if_icmp .ge 168, 3) := by decide +kernel
theorem dX8_finds_205 : decode cX8_finds 205 = .ok (.aload_n 0, 1) := by decide +kernel
theorem dX8_finds_206 : decode cX8_finds 206 = .ok (.getfield 73, 3) := by decide +kernel
theorem dX8_finds_209 : decode cX8_finds 209 = .ok (.iload 6, 2) := by decide +kernel
theorem dX8_finds_211 : decode cX8_finds 211 = .ok (.iaload, 1) := by decide +kernel
theorem dX8_finds_212 : decode cX8_finds 212 = .ok (.istore 7, 2) := by decide +kernel
theorem dX8_finds_214 : decode cX8_finds 214 = .ok (.iconst (-1), 1) := by decide +kernel
theorem dX8_finds_215 : decode cX8_finds 215 = .ok (.istore 8, 2) := by decide +kernel
theorem dX8_finds_217 : decode cX8_finds 217 = .ok (.iconst 1, 1) := by decide +kernel
theorem dX8_finds_218 : decode cX8_finds 218 = .ok (.istore 9, 2) := by decide +kernel
theorem dX8_finds_220 : decode cX8_finds 220 = .ok (.iload 9, 2) := by decide +kernel
theorem dX8_finds_222 : decode cX8_finds 222 = .ok (.aload_n 0, 1) := by decide +kernel
theorem dX8_finds_223 : decode cX8_finds 223 = .ok (.getfield 17, 3) := by decide +kernel
theorem dX8_finds_226 : decode cX8_finds 226 = .ok (.iload 7, 2) := by decide +kernel
theorem dX8_finds_228 : decode cX8_finds 228 = .ok (.iaload, 1) := by decide +kernel
theorem dX8_finds_229 : decode cX8_finds 229 = .ok (.if_icmp .ge 96, 3) := by decide +kernel
theorem dX8_finds_232 : decode cX8_finds 232 = .ok (.bipush 7, 2) := by decide +kernel
theorem dX8_finds_234 : decode cX8_finds 234 = .ok (.iload 7, 2) := by decide +kernel
theorem dX8_finds_236 : decode cX8_finds 236 = .ok (.imul, 1) := by decide +kernel
theorem dX8_finds_237 : decode cX8_finds 237 = .ok (.iload 9, 2) := by decide +kernel
theorem dX8_finds_239 : decode cX8_finds 239 = .ok (.iadd, 1) := by decide +kernel
theorem dX8_finds_240 : decode cX8_finds 240 = .ok (.istore 10, 2) := by decide +kernel
theorem dX8_finds_242 : decode cX8_finds 242 = .ok (.aload_n 0, 1) := by decide +kernel
theorem dX8_finds_243 : decode cX8_finds 243 = .ok (.iload 7, 2) := by decide +kernel
theorem dX8_finds_245 : decode cX8_finds 245 = .ok (.iload 6, 2) := by decide +kernel
theorem dX8_finds_247 : decode cX8_finds 247 = .ok (.iload 5, 2) := by decide +kernel
theorem dX8_finds_249 : decode cX8_finds 249 = .ok (.iload_n 1, 1) := by decide +kernel
theorem dX8_finds_250 : decode cX8_finds 250 = .ok (.iload 4, 2) := by decide +kernel
theorem dX8_finds_252 : decode cX8_finds 252 = .ok (.invokevirtual 218, 3) := by decide +kernel
theorem dX8_finds_255 : decode cX8_finds 255 = .ok (.iload 9, 2) := by decide +kernel
theorem dX8_finds_257 : decode cX8_finds 257 = .ok (.if_icmp .ge 62, 3) := by decide +kernel
theorem dX8_finds_260 : decode cX8_finds 260 = .ok (.aload_n 0, 1) := by decide +kernel
theorem dX8_finds_261 : decode cX8_finds 261 = .ok (.iload 7, 2) := by decide +kernel
theorem dX8_finds_263 : decode cX8_finds 263 = .ok (.iload 6, 2) := by decide +kernel
theorem dX8_finds_265 : decode cX8_finds 265 = .ok (.iload 5, 2) := by decide +kernel
theorem dX8_finds_267 : decode cX8_finds 267 = .ok (.iload_n 1, 1) := by decide +kernel
theorem dX8_finds_268 : decode cX8_finds 268 = .ok (.iload 4, 2) := by decide +kernel
theorem dX8_finds_270 : decode cX8_finds 270 = .ok (.invokevirtual 218, 3) := by decide +kernel
theorem dX8_finds_273 : decode cX8_finds 273 = .ok (.iconst (-1), 1) := by decide +kernel
theorem dX8_finds_274 : decode cX8_finds 274 = .ok (.if_icmp .eq 45, 3) := by decide +kernel
theorem dX8_finds_277 : decode cX8_finds 277 = .ok (.aload_n 0, 1) := by decide +kernel
theorem dX8_finds_278 : decode cX8_finds 278 = .ok (.iload 10, 2) := by decide +kernel
theorem dX8_finds_280 : decode cX8_finds 280 = .ok (.iload 6, 2) := by decide +kernel
theorem dX8_finds_282 : decode cX8_finds 282 = .ok (.iload_n 2, 1) := by decide +kernel
theorem dX8_finds_283 : decode cX8_finds 283 = .ok (.invokevirtual 222, 3) := by decide +kernel
theorem dX8_finds_286 : decode cX8_finds 286 = .ok (.ifCond .ne 6, 3) := by decide +kernel
theorem dX8_finds_289 : decode cX8_finds 289 = .ok (.goto 30, 3) := by decide +kernel
theorem dX8_finds_292 : decode cX8_finds 292 = .ok (.iload 8, 2) := by decide +kernel
theorem dX8_finds_294 : decode cX8_finds 294 = .ok (.iconst (-1), 1) := by decide +kernel
theorem dX8_finds_295 : decode cX8_finds 295 = .ok (.if_icmp .eq 20, 3) := by decide +kernel
theorem dX8_finds_298 : decode cX8_finds 298 = .ok (.aload_n 0, 1) := by decide +kernel
theorem dX8_finds_299 : decode cX8_finds 299 = .ok (.getfield 20, 3) := by decide +kernel
theorem dX8_finds_302 : decode cX8_finds 302 = .ok (.iload 10, 2) := by decide +kernel
theorem dX8_finds_304 : decode cX8_finds 304 = .ok (.iaload, 1) := by decide +kernel
theorem dX8_finds_305 : decode cX8_finds 305 = .ok (.aload_n 0, 1) := by decide +kernel
theorem dX8_finds_306 : decode cX8_finds 306 = .ok (.getfield 20, 3) := by decide +kernel
theorem dX8_finds_309 : decode cX8_finds 309 = .ok (.iload 8, 2) := by decide +kernel
theorem dX8_finds_311 : decode cX8_finds 311 = .ok (.iaload, 1) := by decide +kernel
theorem dX8_finds_312 : decode cX8_finds 312 = .ok (.if_icmp .ge 7, 3) := by decide +kernel
theorem dX8_finds_315 : decode cX8_finds 315 = .ok (.iload 10, 2) := by decide +kernel
theorem dX8_finds_317 : decode cX8_finds 317 = .ok (.istore 8, 2) := by decide +kernel
theorem dX8_finds_319 : decode cX8_finds 319 = .ok (.iinc 9 1, 3) := by decide +kernel
theorem dX8_finds_322 : decode cX8_finds 322 = .ok (.goto (-102), 3) := by decide +kernel
theorem dX8_finds_325 : decode cX8_finds 325 = .ok (.aload_n 0, 1) := by decide +kernel
theorem dX8_finds_326 : decode cX8_finds 326 = .ok (.getfield 76, 3) := by decide +kernel
theorem dX8_finds_329 : decode cX8_finds 329 = .ok (.iload 6, 2) := by decide +kernel
theorem dX8_finds_331 : decode cX8_finds 331 = .ok (.bipush 7, 2) := by decide +kernel
theorem dX8_finds_333 : decode cX8_finds 333 = .ok (.iload 7, 2) := by decide +kernel
theorem dX8_finds_335 : decode cX8_finds 335 = .ok (.imul, 1) := by decide +kernel
theorem dX8_finds_336 : decode cX8_finds 336 = .ok (.aload_n 0, 1) := by decide +kernel
theorem dX8_finds_337 : decode cX8_finds 337 = .ok (.iload 7, 2) := by decide +kernel
theorem dX8_finds_339 : decode cX8_finds 339 = .ok (.iload 6, 2) := by decide +kernel
theorem dX8_finds_341 : decode cX8_finds 341 = .ok (.iload 5, 2) := by decide +kernel
theorem dX8_finds_343 : decode cX8_finds 343 = .ok (.iload_n 1, 1) := by decide +kernel
theorem dX8_finds_344 : decode cX8_finds 344 = .ok (.iload 4, 2) := by decide +kernel
theorem dX8_finds_346 : decode cX8_finds 346 = .ok (.invokevirtual 218, 3) := by decide +kernel
theorem dX8_finds_349 : decode cX8_finds 349 = .ok (.iadd, 1) := by decide +kernel
theorem dX8_finds_350 : decode cX8_finds 350 = .ok (.iastore, 1) := by decide +kernel
theorem dX8_finds_351 : decode cX8_finds 351 = .ok (.aload_n 0, 1) := by decide +kernel
theorem dX8_finds_352 : decode cX8_finds 352 = .ok (.getfield 79, 3) := by decide +kernel
theorem dX8_finds_355 : decode cX8_finds 355 = .ok (.iload 6, 2) := by decide +kernel
theorem dX8_finds_357 : decode cX8_finds 357 = .ok (.iload 8, 2) := by decide +kernel
theorem dX8_finds_359 : decode cX8_finds 359 = .ok (.iastore, 1) := by decide +kernel
theorem dX8_finds_360 : decode cX8_finds 360 = .ok (.iload 8, 2) := by decide +kernel
theorem dX8_finds_362 : decode cX8_finds 362 = .ok (.istore 5, 2) := by decide +kernel
theorem dX8_finds_364 : decode cX8_finds 364 = .ok (.iinc 6 1, 3) := by decide +kernel
theorem dX8_finds_367 : decode cX8_finds 367 = .ok (.goto (-171), 3) := by decide +kernel
theorem dX8_finds_370 : decode cX8_finds 370 = .ok (.iconst 1, 1) := by decide +kernel
theorem dX8_finds_371 : decode cX8_finds 371 = .ok (.ireturn, 1) := by decide +kernel
theorem dX8_boardOf_0 : decode cX8_boardOf 0 = .ok (.iconst 0, 1) := by decide +kernel
theorem dX8_boardOf_1 : decode cX8_boardOf 1 = .ok (.istore 6, 2) := by decide +kernel
theorem dX8_boardOf_3 : decode cX8_boardOf 3 = .ok (.iload 6, 2) := by decide +kernel
theorem dX8_boardOf_5 : decode cX8_boardOf 5 = .ok (.aload_n 0, 1) := by decide +kernel
theorem dX8_boardOf_6 : decode cX8_boardOf 6 = .ok (.getfield 17, 3) := by decide +kernel
theorem dX8_boardOf_9 : decode cX8_boardOf 9 = .ok (.iload_n 1, 1) := by decide +kernel
theorem dX8_boardOf_10 : decode cX8_boardOf 10 = .ok (.iaload, 1) := by decide +kernel
theorem dX8_boardOf_11 : decode cX8_boardOf 11 = .ok (.if_icmp .ge 62, 3) := by decide +kernel
theorem dX8_boardOf_14 : decode cX8_boardOf 14 = .ok (.bipush 7, 2) := by decide +kernel
theorem dX8_boardOf_16 : decode cX8_boardOf 16 = .ok (.iload_n 1, 1) := by decide +kernel
theorem dX8_boardOf_17 : decode cX8_boardOf 17 = .ok (.imul, 1) := by decide +kernel
theorem dX8_boardOf_18 : decode cX8_boardOf 18 = .ok (.iload 6, 2) := by decide +kernel
theorem dX8_boardOf_20 : decode cX8_boardOf 20 = .ok (.iadd, 1) := by decide +kernel
theorem dX8_boardOf_21 : decode cX8_boardOf 21 = .ok (.istore 7, 2) := by decide +kernel
theorem dX8_boardOf_23 : decode cX8_boardOf 23 = .ok (.iload_n 2, 1) := by decide +kernel
theorem dX8_boardOf_24 : decode cX8_boardOf 24 = .ok (.ifCond .ne 30, 3) := by decide +kernel
theorem dX8_boardOf_27 : decode cX8_boardOf 27 = .ok (.aload_n 0, 1) := by decide +kernel
theorem dX8_boardOf_28 : decode cX8_boardOf 28 = .ok (.getfield 20, 3) := by decide +kernel
theorem dX8_boardOf_31 : decode cX8_boardOf 31 = .ok (.iload 7, 2) := by decide +kernel
theorem dX8_boardOf_33 : decode cX8_boardOf 33 = .ok (.iaload, 1) := by decide +kernel
theorem dX8_boardOf_34 : decode cX8_boardOf 34 = .ok (.iload 4, 2) := by decide +kernel
theorem dX8_boardOf_36 : decode cX8_boardOf 36 = .ok (.if_icmp .ne 31, 3) := by decide +kernel
theorem dX8_boardOf_39 : decode cX8_boardOf 39 = .ok (.aload_n 0, 1) := by decide +kernel
theorem dX8_boardOf_40 : decode cX8_boardOf 40 = .ok (.getfield 26, 3) := by decide +kernel
theorem dX8_boardOf_43 : decode cX8_boardOf 43 = .ok (.iload 7, 2) := by decide +kernel
theorem dX8_boardOf_45 : decode cX8_boardOf 45 = .ok (.iaload, 1) := by decide +kernel
theorem dX8_boardOf_46 : decode cX8_boardOf 46 = .ok (.iload 5, 2) := by decide +kernel
theorem dX8_boardOf_48 : decode cX8_boardOf 48 = .ok (.if_icmp .lt 19, 3) := by decide +kernel
theorem dX8_boardOf_51 : decode cX8_boardOf 51 = .ok (.goto 13, 3) := by decide +kernel
theorem dX8_boardOf_54 : decode cX8_boardOf 54 = .ok (.aload_n 0, 1) := by decide +kernel
theorem dX8_boardOf_55 : decode cX8_boardOf 55 = .ok (.iload_n 3, 1) := by decide +kernel
theorem dX8_boardOf_56 : decode cX8_boardOf 56 = .ok (.iload 7, 2) := by decide +kernel
theorem dX8_boardOf_58 : decode cX8_boardOf 58 = .ok (.invokevirtual 182, 3) := by decide +kernel
theorem dX8_boardOf_61 : decode cX8_boardOf 61 = .ok (.ifCond .eq 6, 3) := by decide +kernel
theorem dX8_boardOf_64 : decode cX8_boardOf 64 = .ok (.iload 6, 2) := by decide +kernel
theorem dX8_boardOf_66 : decode cX8_boardOf 66 = .ok (.ireturn, 1) := by decide +kernel
theorem dX8_boardOf_67 : decode cX8_boardOf 67 = .ok (.iinc 6 1, 3) := by decide +kernel
theorem dX8_boardOf_70 : decode cX8_boardOf 70 = .ok (.goto (-67), 3) := by decide +kernel
theorem dX8_boardOf_73 : decode cX8_boardOf 73 = .ok (.iconst (-1), 1) := by decide +kernel
theorem dX8_boardOf_74 : decode cX8_boardOf 74 = .ok (.ireturn, 1) := by decide +kernel
theorem dX8_restGoes_0 : decode cX8_restGoes 0 = .ok (.iconst 0, 1) := by decide +kernel
theorem dX8_restGoes_1 : decode cX8_restGoes 1 = .ok (.istore 4, 2) := by decide +kernel
theorem dX8_restGoes_3 : decode cX8_restGoes 3 = .ok (.iload 4, 2) := by decide +kernel
theorem dX8_restGoes_5 : decode cX8_restGoes 5 = .ok (.bipush 70, 2) := by decide +kernel
theorem dX8_restGoes_7 : decode cX8_restGoes 7 = .ok (.if_icmp .ge 27, 3) := by decide +kernel
theorem dX8_restGoes_10 : decode cX8_restGoes 10 = .ok (.aload_n 0, 1) := by decide +kernel
theorem dX8_restGoes_11 : decode cX8_restGoes 11 = .ok (.getfield 88, 3) := by decide +kernel
theorem dX8_restGoes_14 : decode cX8_restGoes 14 = .ok (.iload 4, 2) := by decide +kernel
theorem dX8_restGoes_16 : decode cX8_restGoes 16 = .ok (.iload 4, 2) := by decide +kernel
theorem dX8_restGoes_18 : decode cX8_restGoes 18 = .ok (.iload_n 1, 1) := by decide +kernel
theorem dX8_restGoes_19 : decode cX8_restGoes 19 = .ok (.if_icmp .ne 7, 3) := by decide +kernel
theorem dX8_restGoes_22 : decode cX8_restGoes 22 = .ok (.iconst 1, 1) := by decide +kernel
theorem dX8_restGoes_23 : decode cX8_restGoes 23 = .ok (.goto 4, 3) := by decide +kernel
theorem dX8_restGoes_26 : decode cX8_restGoes 26 = .ok (.iconst 0, 1) := by decide +kernel
theorem dX8_restGoes_27 : decode cX8_restGoes 27 = .ok (.bastore, 1) := by decide +kernel
theorem dX8_restGoes_28 : decode cX8_restGoes 28 = .ok (.iinc 4 1, 3) := by decide +kernel
theorem dX8_restGoes_31 : decode cX8_restGoes 31 = .ok (.goto (-28), 3) := by decide +kernel
theorem dX8_restGoes_34 : decode cX8_restGoes 34 = .ok (.iload_n 2, 1) := by decide +kernel
theorem dX8_restGoes_35 : decode cX8_restGoes 35 = .ok (.iconst 1, 1) := by decide +kernel
theorem dX8_restGoes_36 : decode cX8_restGoes 36 = .ok (.iadd, 1) := by decide +kernel
theorem dX8_restGoes_37 : decode cX8_restGoes 37 = .ok (.istore 4, 2) := by decide +kernel
theorem dX8_restGoes_39 : decode cX8_restGoes 39 = .ok (.iload 4, 2) := by decide +kernel
theorem dX8_restGoes_41 : decode cX8_restGoes 41 = .ok (.aload_n 0, 1) := by decide +kernel
theorem dX8_restGoes_42 : decode cX8_restGoes 42 = .ok (.getfield 211, 3) := by decide +kernel
theorem dX8_restGoes_45 : decode cX8_restGoes 45 = .ok (.if_icmp .ge 181, 3) := by decide +kernel
theorem dX8_restGoes_48 : decode cX8_restGoes 48 = .ok (.aload_n 0, 1) := by decide +kernel
theorem dX8_restGoes_49 : decode cX8_restGoes 49 = .ok (.getfield 73, 3) := by decide +kernel
theorem dX8_restGoes_52 : decode cX8_restGoes 52 = .ok (.iload 4, 2) := by decide +kernel
theorem dX8_restGoes_54 : decode cX8_restGoes 54 = .ok (.iaload, 1) := by decide +kernel
theorem dX8_restGoes_55 : decode cX8_restGoes 55 = .ok (.istore 5, 2) := by decide +kernel
theorem dX8_restGoes_57 : decode cX8_restGoes 57 = .ok (.iconst 0, 1) := by decide +kernel
theorem dX8_restGoes_58 : decode cX8_restGoes 58 = .ok (.istore 6, 2) := by decide +kernel
theorem dX8_restGoes_60 : decode cX8_restGoes 60 = .ok (.iconst 0, 1) := by decide +kernel
theorem dX8_restGoes_61 : decode cX8_restGoes 61 = .ok (.istore 7, 2) := by decide +kernel
theorem dX8_restGoes_63 : decode cX8_restGoes 63 = .ok (.iconst 0, 1) := by decide +kernel
theorem dX8_restGoes_64 : decode cX8_restGoes 64 = .ok (.istore 8, 2) := by decide +kernel
theorem dX8_restGoes_66 : decode cX8_restGoes 66 = .ok (.iload 8, 2) := by decide +kernel
theorem dX8_restGoes_68 : decode cX8_restGoes 68 = .ok (.bipush 70, 2) := by decide +kernel
theorem dX8_restGoes_70 : decode cX8_restGoes 70 = .ok (.if_icmp .ge 17, 3) := by decide +kernel
theorem dX8_restGoes_73 : decode cX8_restGoes 73 = .ok (.aload_n 0, 1) := by decide +kernel
theorem dX8_restGoes_74 : decode cX8_restGoes 74 = .ok (.getfield 85, 3) := by decide +kernel
theorem dX8_restGoes_77 : decode cX8_restGoes 77 = .ok (.iload 8, 2) := by decide +kernel
theorem dX8_restGoes_79 : decode cX8_restGoes 79 = .ok (.iconst 0, 1) := by decide +kernel
theorem dX8_restGoes_80 : decode cX8_restGoes 80 = .ok (.bastore, 1) := by decide +kernel
theorem dX8_restGoes_81 : decode cX8_restGoes 81 = .ok (.iinc 8 1, 3) := by decide +kernel
theorem dX8_restGoes_84 : decode cX8_restGoes 84 = .ok (.goto (-18), 3) := by decide +kernel
theorem dX8_restGoes_87 : decode cX8_restGoes 87 = .ok (.iconst 0, 1) := by decide +kernel
theorem dX8_restGoes_88 : decode cX8_restGoes 88 = .ok (.istore 8, 2) := by decide +kernel
theorem dX8_restGoes_90 : decode cX8_restGoes 90 = .ok (.iload 8, 2) := by decide +kernel
theorem dX8_restGoes_92 : decode cX8_restGoes 92 = .ok (.aload_n 0, 1) := by decide +kernel
theorem dX8_restGoes_93 : decode cX8_restGoes 93 = .ok (.getfield 17, 3) := by decide +kernel
theorem dX8_restGoes_96 : decode cX8_restGoes 96 = .ok (.iload 5, 2) := by decide +kernel
theorem dX8_restGoes_98 : decode cX8_restGoes 98 = .ok (.iaload, 1) := by decide +kernel
theorem dX8_restGoes_99 : decode cX8_restGoes 99 = .ok (.if_icmp .ge 84, 3) := by decide +kernel
theorem dX8_restGoes_102 : decode cX8_restGoes 102 = .ok (.bipush 7, 2) := by decide +kernel
theorem dX8_restGoes_104 : decode cX8_restGoes 104 = .ok (.iload 5, 2) := by decide +kernel
theorem dX8_restGoes_106 : decode cX8_restGoes 106 = .ok (.imul, 1) := by decide +kernel
theorem dX8_restGoes_107 : decode cX8_restGoes 107 = .ok (.iload 8, 2) := by decide +kernel
theorem dX8_restGoes_109 : decode cX8_restGoes 109 = .ok (.iadd, 1) := by decide +kernel
theorem dX8_restGoes_110 : decode cX8_restGoes 110 = .ok (.istore 9, 2) := by decide +kernel
theorem dX8_restGoes_112 : decode cX8_restGoes 112 = .ok (.iload 6, 2) := by decide +kernel
theorem dX8_restGoes_114 : decode cX8_restGoes 114 = .ok (.ifCond .eq 14, 3) := by decide +kernel
theorem dX8_restGoes_117 : decode cX8_restGoes 117 = .ok (.aload_n 0, 1) := by decide +kernel
theorem dX8_restGoes_118 : decode cX8_restGoes 118 = .ok (.getfield 85, 3) := by decide +kernel
theorem dX8_restGoes_121 : decode cX8_restGoes 121 = .ok (.iload 9, 2) := by decide +kernel
theorem dX8_restGoes_123 : decode cX8_restGoes 123 = .ok (.iconst 1, 1) := by decide +kernel
theorem dX8_restGoes_124 : decode cX8_restGoes 124 = .ok (.bastore, 1) := by decide +kernel
theorem dX8_restGoes_125 : decode cX8_restGoes 125 = .ok (.iconst 1, 1) := by decide +kernel
theorem dX8_restGoes_126 : decode cX8_restGoes 126 = .ok (.istore 7, 2) := by decide +kernel
theorem dX8_restGoes_128 : decode cX8_restGoes 128 = .ok (.iconst 0, 1) := by decide +kernel
theorem dX8_restGoes_129 : decode cX8_restGoes 129 = .ok (.istore 10, 2) := by decide +kernel
theorem dX8_restGoes_131 : decode cX8_restGoes 131 = .ok (.iload 10, 2) := by decide +kernel
theorem dX8_restGoes_133 : decode cX8_restGoes 133 = .ok (.bipush 70, 2) := by decide +kernel
theorem dX8_restGoes_135 : decode cX8_restGoes 135 = .ok (.if_icmp .ge 42, 3) := by decide +kernel
theorem dX8_restGoes_138 : decode cX8_restGoes 138 = .ok (.iload 6, 2) := by decide +kernel
theorem dX8_restGoes_140 : decode cX8_restGoes 140 = .ok (.ifCond .ne 37, 3) := by decide +kernel
theorem dX8_restGoes_143 : decode cX8_restGoes 143 = .ok (.aload_n 0, 1) := by decide +kernel
theorem dX8_restGoes_144 : decode cX8_restGoes 144 = .ok (.getfield 88, 3) := by decide +kernel
theorem dX8_restGoes_147 : decode cX8_restGoes 147 = .ok (.iload 10, 2) := by decide +kernel
theorem dX8_restGoes_149 : decode cX8_restGoes 149 = .ok (.baload, 1) := by decide +kernel
theorem dX8_restGoes_150 : decode cX8_restGoes 150 = .ok (.ifCond .eq 18, 3) := by decide +kernel
theorem dX8_restGoes_153 : decode cX8_restGoes 153 = .ok (.aload_n 0, 1) := by decide +kernel
theorem dX8_restGoes_154 : decode cX8_restGoes 154 = .ok (.iload 10, 2) := by decide +kernel
theorem dX8_restGoes_156 : decode cX8_restGoes 156 = .ok (.iload 9, 2) := by decide +kernel
theorem dX8_restGoes_158 : decode cX8_restGoes 158 = .ok (.invokevirtual 182, 3) := by decide +kernel
theorem dX8_restGoes_161 : decode cX8_restGoes 161 = .ok (.ifCond .eq 7, 3) := by decide +kernel
theorem dX8_restGoes_164 : decode cX8_restGoes 164 = .ok (.iconst 1, 1) := by decide +kernel
theorem dX8_restGoes_165 : decode cX8_restGoes 165 = .ok (.goto 4, 3) := by decide +kernel
theorem dX8_restGoes_168 : decode cX8_restGoes 168 = .ok (.iconst 0, 1) := by decide +kernel
theorem dX8_restGoes_169 : decode cX8_restGoes 169 = .ok (.istore 6, 2) := by decide +kernel
theorem dX8_restGoes_171 : decode cX8_restGoes 171 = .ok (.iinc 10 1, 3) := by decide +kernel
theorem dX8_restGoes_174 : decode cX8_restGoes 174 = .ok (.goto (-43), 3) := by decide +kernel
theorem dX8_restGoes_177 : decode cX8_restGoes 177 = .ok (.iinc 8 1, 3) := by decide +kernel
theorem dX8_restGoes_180 : decode cX8_restGoes 180 = .ok (.goto (-90), 3) := by decide +kernel
theorem dX8_restGoes_183 : decode cX8_restGoes 183 = .ok (.iload 7, 2) := by decide +kernel
theorem dX8_restGoes_185 : decode cX8_restGoes 185 = .ok (.ifCond .ne 5, 3) := by decide +kernel
theorem dX8_restGoes_188 : decode cX8_restGoes 188 = .ok (.iconst 0, 1) := by decide +kernel
theorem dX8_restGoes_189 : decode cX8_restGoes 189 = .ok (.ireturn, 1) := by decide +kernel
theorem dX8_restGoes_190 : decode cX8_restGoes 190 = .ok (.iconst 0, 1) := by decide +kernel
theorem dX8_restGoes_191 : decode cX8_restGoes 191 = .ok (.istore 8, 2) := by decide +kernel
theorem dX8_restGoes_193 : decode cX8_restGoes 193 = .ok (.iload 8, 2) := by decide +kernel
theorem dX8_restGoes_195 : decode cX8_restGoes 195 = .ok (.bipush 70, 2) := by decide +kernel
theorem dX8_restGoes_197 : decode cX8_restGoes 197 = .ok (.if_icmp .ge 23, 3) := by decide +kernel
theorem dX8_restGoes_200 : decode cX8_restGoes 200 = .ok (.aload_n 0, 1) := by decide +kernel
theorem dX8_restGoes_201 : decode cX8_restGoes 201 = .ok (.getfield 88, 3) := by decide +kernel
theorem dX8_restGoes_204 : decode cX8_restGoes 204 = .ok (.iload 8, 2) := by decide +kernel
theorem dX8_restGoes_206 : decode cX8_restGoes 206 = .ok (.aload_n 0, 1) := by decide +kernel
theorem dX8_restGoes_207 : decode cX8_restGoes 207 = .ok (.getfield 85, 3) := by decide +kernel
theorem dX8_restGoes_210 : decode cX8_restGoes 210 = .ok (.iload 8, 2) := by decide +kernel
theorem dX8_restGoes_212 : decode cX8_restGoes 212 = .ok (.baload, 1) := by decide +kernel
theorem dX8_restGoes_213 : decode cX8_restGoes 213 = .ok (.bastore, 1) := by decide +kernel
theorem dX8_restGoes_214 : decode cX8_restGoes 214 = .ok (.iinc 8 1, 3) := by decide +kernel
theorem dX8_restGoes_217 : decode cX8_restGoes 217 = .ok (.goto (-24), 3) := by decide +kernel
theorem dX8_restGoes_220 : decode cX8_restGoes 220 = .ok (.iinc 4 1, 3) := by decide +kernel
theorem dX8_restGoes_223 : decode cX8_restGoes 223 = .ok (.goto (-184), 3) := by decide +kernel
theorem dX8_restGoes_226 : decode cX8_restGoes 226 = .ok (.iconst 0, 1) := by decide +kernel
theorem dX8_restGoes_227 : decode cX8_restGoes 227 = .ok (.istore 4, 2) := by decide +kernel
theorem dX8_restGoes_229 : decode cX8_restGoes 229 = .ok (.iload 4, 2) := by decide +kernel
theorem dX8_restGoes_231 : decode cX8_restGoes 231 = .ok (.bipush 70, 2) := by decide +kernel
theorem dX8_restGoes_233 : decode cX8_restGoes 233 = .ok (.if_icmp .ge 46, 3) := by decide +kernel
theorem dX8_restGoes_236 : decode cX8_restGoes 236 = .ok (.aload_n 0, 1) := by decide +kernel
theorem dX8_restGoes_237 : decode cX8_restGoes 237 = .ok (.getfield 88, 3) := by decide +kernel
theorem dX8_restGoes_240 : decode cX8_restGoes 240 = .ok (.iload 4, 2) := by decide +kernel
theorem dX8_restGoes_242 : decode cX8_restGoes 242 = .ok (.baload, 1) := by decide +kernel
theorem dX8_restGoes_243 : decode cX8_restGoes 243 = .ok (.ifCond .eq 30, 3) := by decide +kernel
theorem dX8_restGoes_246 : decode cX8_restGoes 246 = .ok (.aload_n 0, 1) := by decide +kernel
theorem dX8_restGoes_247 : decode cX8_restGoes 247 = .ok (.getfield 20, 3) := by decide +kernel
theorem dX8_restGoes_250 : decode cX8_restGoes 250 = .ok (.iload 4, 2) := by decide +kernel
theorem dX8_restGoes_252 : decode cX8_restGoes 252 = .ok (.iaload, 1) := by decide +kernel
theorem dX8_restGoes_253 : decode cX8_restGoes 253 = .ok (.iload_n 3, 1) := by decide +kernel
theorem dX8_restGoes_254 : decode cX8_restGoes 254 = .ok (.if_icmp .ne 19, 3) := by decide +kernel
theorem dX8_restGoes_257 : decode cX8_restGoes 257 = .ok (.aload_n 0, 1) := by decide +kernel
theorem dX8_restGoes_258 : decode cX8_restGoes 258 = .ok (.getfield 23, 3) := by decide +kernel
theorem dX8_restGoes_261 : decode cX8_restGoes 261 = .ok (.iload 4, 2) := by decide +kernel
theorem dX8_restGoes_263 : decode cX8_restGoes 263 = .ok (.iaload, 1) := by decide +kernel
theorem dX8_restGoes_264 : decode cX8_restGoes 264 = .ok (.aload_n 0, 1) := by decide +kernel
theorem dX8_restGoes_265 : decode cX8_restGoes 265 = .ok (.getfield 189, 3) := by decide +kernel
theorem dX8_restGoes_268 : decode cX8_restGoes 268 = .ok (.if_icmp .ne 5, 3) := by decide +kernel
theorem dX8_restGoes_271 : decode cX8_restGoes 271 = .ok (.iconst 1, 1) := by decide +kernel
theorem dX8_restGoes_272 : decode cX8_restGoes 272 = .ok (.ireturn, 1) := by decide +kernel
theorem dX8_restGoes_273 : decode cX8_restGoes 273 = .ok (.iinc 4 1, 3) := by decide +kernel
theorem dX8_restGoes_276 : decode cX8_restGoes 276 = .ok (.goto (-47), 3) := by decide +kernel
theorem dX8_restGoes_279 : decode cX8_restGoes 279 = .ok (.iconst 0, 1) := by decide +kernel
theorem dX8_restGoes_280 : decode cX8_restGoes 280 = .ok (.ireturn, 1) := by decide +kernel
theorem dX8_way_0 : decode cX8_way 0 = .ok (.aload_n 0, 1) := by decide +kernel
theorem dX8_way_1 : decode cX8_way 1 = .ok (.iconst 0, 1) := by decide +kernel
theorem dX8_way_2 : decode cX8_way 2 = .ok (.putfield 94, 3) := by decide +kernel
theorem dX8_way_5 : decode cX8_way 5 = .ok (.aload_n 0, 1) := by decide +kernel
theorem dX8_way_6 : decode cX8_way 6 = .ok (.iload_n 1, 1) := by decide +kernel
theorem dX8_way_7 : decode cX8_way 7 = .ok (.iload_n 2, 1) := by decide +kernel
theorem dX8_way_8 : decode cX8_way 8 = .ok (.iload_n 3, 1) := by decide +kernel
theorem dX8_way_9 : decode cX8_way 9 = .ok (.iload 4, 2) := by decide +kernel
theorem dX8_way_11 : decode cX8_way 11 = .ok (.invokevirtual 225, 3) := by decide +kernel
theorem dX8_way_14 : decode cX8_way 14 = .ok (.ifCond .eq 8, 3) := by decide +kernel
theorem dX8_way_17 : decode cX8_way 17 = .ok (.iload 5, 2) := by decide +kernel
theorem dX8_way_19 : decode cX8_way 19 = .ok (.ifCond .ge 5, 3) := by decide +kernel
theorem dX8_way_22 : decode cX8_way 22 = .ok (.iconst (-1), 1) := by decide +kernel
theorem dX8_way_23 : decode cX8_way 23 = .ok (.ireturn, 1) := by decide +kernel
theorem dX8_way_24 : decode cX8_way 24 = .ok (.iload 5, 2) := by decide +kernel
theorem dX8_way_26 : decode cX8_way 26 = .ok (.ifCond .ne 8, 3) := by decide +kernel
theorem dX8_way_29 : decode cX8_way 29 = .ok (.aload_n 0, 1) := by decide +kernel
theorem dX8_way_30 : decode cX8_way 30 = .ok (.getfield 189, 3) := by decide +kernel
theorem dX8_way_33 : decode cX8_way 33 = .ok (.ireturn, 1) := by decide +kernel
theorem dX8_way_34 : decode cX8_way 34 = .ok (.iload 5, 2) := by decide +kernel
theorem dX8_way_36 : decode cX8_way 36 = .ok (.iconst 1, 1) := by decide +kernel
theorem dX8_way_37 : decode cX8_way 37 = .ok (.if_icmp .ne 8, 3) := by decide +kernel
theorem dX8_way_40 : decode cX8_way 40 = .ok (.aload_n 0, 1) := by decide +kernel
theorem dX8_way_41 : decode cX8_way 41 = .ok (.getfield 211, 3) := by decide +kernel
theorem dX8_way_44 : decode cX8_way 44 = .ok (.ireturn, 1) := by decide +kernel
theorem dX8_way_45 : decode cX8_way 45 = .ok (.iload 5, 2) := by decide +kernel
theorem dX8_way_47 : decode cX8_way 47 = .ok (.iconst 2, 1) := by decide +kernel
theorem dX8_way_48 : decode cX8_way 48 = .ok (.if_icmp .ne 15, 3) := by decide +kernel
theorem dX8_way_51 : decode cX8_way 51 = .ok (.aload_n 0, 1) := by decide +kernel
theorem dX8_way_52 : decode cX8_way 52 = .ok (.getfield 26, 3) := by decide +kernel
theorem dX8_way_55 : decode cX8_way 55 = .ok (.aload_n 0, 1) := by decide +kernel
theorem dX8_way_56 : decode cX8_way 56 = .ok (.getfield 76, 3) := by decide +kernel
theorem dX8_way_59 : decode cX8_way 59 = .ok (.iconst 0, 1) := by decide +kernel
theorem dX8_way_60 : decode cX8_way 60 = .ok (.iaload, 1) := by decide +kernel
theorem dX8_way_61 : decode cX8_way 61 = .ok (.iaload, 1) := by decide +kernel
theorem dX8_way_62 : decode cX8_way 62 = .ok (.ireturn, 1) := by decide +kernel
theorem dX8_way_63 : decode cX8_way 63 = .ok (.iload 5, 2) := by decide +kernel
theorem dX8_way_65 : decode cX8_way 65 = .ok (.bipush 10, 2) := by decide +kernel
theorem dX8_way_67 : decode cX8_way 67 = .ok (.idiv, 1) := by decide +kernel
theorem dX8_way_68 : decode cX8_way 68 = .ok (.iconst 1, 1) := by decide +kernel
theorem dX8_way_69 : decode cX8_way 69 = .ok (.isub, 1) := by decide +kernel
theorem dX8_way_70 : decode cX8_way 70 = .ok (.istore 6, 2) := by decide +kernel
theorem dX8_way_72 : decode cX8_way 72 = .ok (.iload 5, 2) := by decide +kernel
theorem dX8_way_74 : decode cX8_way 74 = .ok (.bipush 10, 2) := by decide +kernel
theorem dX8_way_76 : decode cX8_way 76 = .ok (.irem, 1) := by decide +kernel
theorem dX8_way_77 : decode cX8_way 77 = .ok (.istore 7, 2) := by decide +kernel
theorem dX8_way_79 : decode cX8_way 79 = .ok (.iload 6, 2) := by decide +kernel
theorem dX8_way_81 : decode cX8_way 81 = .ok (.ifCond .lt 18, 3) := by decide +kernel
theorem dX8_way_84 : decode cX8_way 84 = .ok (.iload 6, 2) := by decide +kernel
theorem dX8_way_86 : decode cX8_way 86 = .ok (.aload_n 0, 1) := by decide +kernel
theorem dX8_way_87 : decode cX8_way 87 = .ok (.getfield 211, 3) := by decide +kernel
theorem dX8_way_90 : decode cX8_way 90 = .ok (.if_icmp .ge 9, 3) := by decide +kernel
theorem dX8_way_93 : decode cX8_way 93 = .ok (.iload 7, 2) := by decide +kernel
theorem dX8_way_95 : decode cX8_way 95 = .ok (.iconst 4, 1) := by decide +kernel
theorem dX8_way_96 : decode cX8_way 96 = .ok (.if_icmp .le 5, 3) := by decide +kernel
theorem dX8_way_99 : decode cX8_way 99 = .ok (.iconst (-1), 1) := by decide +kernel
theorem dX8_way_100 : decode cX8_way 100 = .ok (.ireturn, 1) := by decide +kernel
theorem dX8_way_101 : decode cX8_way 101 = .ok (.iload 7, 2) := by decide +kernel
theorem dX8_way_103 : decode cX8_way 103 = .ok (.ifCond .ne 11, 3) := by decide +kernel
theorem dX8_way_106 : decode cX8_way 106 = .ok (.aload_n 0, 1) := by decide +kernel
theorem dX8_way_107 : decode cX8_way 107 = .ok (.getfield 73, 3) := by decide +kernel
theorem dX8_way_110 : decode cX8_way 110 = .ok (.iload 6, 2) := by decide +kernel
theorem dX8_way_112 : decode cX8_way 112 = .ok (.iaload, 1) := by decide +kernel
theorem dX8_way_113 : decode cX8_way 113 = .ok (.ireturn, 1) := by decide +kernel
theorem dX8_way_114 : decode cX8_way 114 = .ok (.iload 7, 2) := by decide +kernel
theorem dX8_way_116 : decode cX8_way 116 = .ok (.iconst 1, 1) := by decide +kernel
theorem dX8_way_117 : decode cX8_way 117 = .ok (.if_icmp .ne 16, 3) := by decide +kernel
theorem dX8_way_120 : decode cX8_way 120 = .ok (.aload_n 0, 1) := by decide +kernel
theorem dX8_way_121 : decode cX8_way 121 = .ok (.getfield 20, 3) := by decide +kernel
theorem dX8_way_124 : decode cX8_way 124 = .ok (.aload_n 0, 1) := by decide +kernel
theorem dX8_way_125 : decode cX8_way 125 = .ok (.getfield 76, 3) := by decide +kernel
theorem dX8_way_128 : decode cX8_way 128 = .ok (.iload 6, 2) := by decide +kernel
theorem dX8_way_130 : decode cX8_way 130 = .ok (.iaload, 1) := by decide +kernel
theorem dX8_way_131 : decode cX8_way 131 = .ok (.iaload, 1) := by decide +kernel
theorem dX8_way_132 : decode cX8_way 132 = .ok (.ireturn, 1) := by decide +kernel
theorem dX8_way_133 : decode cX8_way 133 = .ok (.iload 7, 2) := by decide +kernel
theorem dX8_way_135 : decode cX8_way 135 = .ok (.iconst 2, 1) := by decide +kernel
theorem dX8_way_136 : decode cX8_way 136 = .ok (.if_icmp .ne 16, 3) := by decide +kernel
theorem dX8_way_139 : decode cX8_way 139 = .ok (.aload_n 0, 1) := by decide +kernel
theorem dX8_way_140 : decode cX8_way 140 = .ok (.getfield 20, 3) := by decide +kernel
theorem dX8_way_143 : decode cX8_way 143 = .ok (.aload_n 0, 1) := by decide +kernel
theorem dX8_way_144 : decode cX8_way 144 = .ok (.getfield 79, 3) := by decide +kernel
theorem dX8_way_147 : decode cX8_way 147 = .ok (.iload 6, 2) := by decide +kernel
theorem dX8_way_149 : decode cX8_way 149 = .ok (.iaload, 1) := by decide +kernel
theorem dX8_way_150 : decode cX8_way 150 = .ok (.iaload, 1) := by decide +kernel
theorem dX8_way_151 : decode cX8_way 151 = .ok (.ireturn, 1) := by decide +kernel
theorem dX8_way_152 : decode cX8_way 152 = .ok (.iload 7, 2) := by decide +kernel
theorem dX8_way_154 : decode cX8_way 154 = .ok (.iconst 3, 1) := by decide +kernel
theorem dX8_way_155 : decode cX8_way 155 = .ok (.if_icmp .ne 18, 3) := by decide +kernel
theorem dX8_way_158 : decode cX8_way 158 = .ok (.aload_n 0, 1) := by decide +kernel
theorem dX8_way_159 : decode cX8_way 159 = .ok (.getfield 26, 3) := by decide +kernel
theorem dX8_way_162 : decode cX8_way 162 = .ok (.aload_n 0, 1) := by decide +kernel
theorem dX8_way_163 : decode cX8_way 163 = .ok (.getfield 76, 3) := by decide +kernel
theorem dX8_way_166 : decode cX8_way 166 = .ok (.iload 6, 2) := by decide +kernel
theorem dX8_way_168 : decode cX8_way 168 = .ok (.iaload, 1) := by decide +kernel
theorem dX8_way_169 : decode cX8_way 169 = .ok (.iaload, 1) := by decide +kernel
theorem dX8_way_170 : decode cX8_way 170 = .ok (.goto 15, 3) := by decide +kernel
theorem dX8_way_173 : decode cX8_way 173 = .ok (.aload_n 0, 1) := by decide +kernel
theorem dX8_way_174 : decode cX8_way 174 = .ok (.getfield 23, 3) := by decide +kernel
theorem dX8_way_177 : decode cX8_way 177 = .ok (.aload_n 0, 1) := by decide +kernel
theorem dX8_way_178 : decode cX8_way 178 = .ok (.getfield 79, 3) := by decide +kernel
theorem dX8_way_181 : decode cX8_way 181 = .ok (.iload 6, 2) := by decide +kernel
theorem dX8_way_183 : decode cX8_way 183 = .ok (.iaload, 1) := by decide +kernel
theorem dX8_way_184 : decode cX8_way 184 = .ok (.iaload, 1) := by decide +kernel
theorem dX8_way_185 : decode cX8_way 185 = .ok (.ireturn, 1) := by decide +kernel
theorem dX8_findDepartures_0 : decode cX8_findDepartures 0 = .ok (.aload_n 0, 1) := by decide +kernel
theorem dX8_findDepartures_1 : decode cX8_findDepartures 1 = .ok (.iconst 0, 1) := by decide +kernel
theorem dX8_findDepartures_2 : decode cX8_findDepartures 2 = .ok (.putfield 228, 3) := by decide +kernel
theorem dX8_findDepartures_5 : decode cX8_findDepartures 5 = .ok (.iconst 0, 1) := by decide +kernel
theorem dX8_findDepartures_6 : decode cX8_findDepartures 6 = .ok (.istore 4, 2) := by decide +kernel
theorem dX8_findDepartures_8 : decode cX8_findDepartures 8 = .ok (.iload 4, 2) := by decide +kernel
theorem dX8_findDepartures_10 : decode cX8_findDepartures 10 = .ok (.sipush 1440, 3) := by decide +kernel
theorem dX8_findDepartures_13 : decode cX8_findDepartures 13 = .ok (.if_icmp .ge 104, 3) := by decide +kernel
theorem dX8_findDepartures_16 : decode cX8_findDepartures 16 = .ok (.aload_n 0, 1) := by decide +kernel
theorem dX8_findDepartures_17 : decode cX8_findDepartures 17 = .ok (.iload_n 1, 1) := by decide +kernel
theorem dX8_findDepartures_18 : decode cX8_findDepartures 18 = .ok (.iload_n 3, 1) := by decide +kernel
theorem dX8_findDepartures_19 : decode cX8_findDepartures 19 = .ok (.iload 4, 2) := by decide +kernel
theorem dX8_findDepartures_21 : decode cX8_findDepartures 21 = .ok (.invokevirtual 231, 3) := by decide +kernel
theorem dX8_findDepartures_24 : decode cX8_findDepartures 24 = .ok (.ifCond .ne 6, 3) := by decide +kernel
theorem dX8_findDepartures_27 : decode cX8_findDepartures 27 = .ok (.goto 84, 3) := by decide +kernel
theorem dX8_findDepartures_30 : decode cX8_findDepartures 30 = .ok (.aload_n 0, 1) := by decide +kernel
theorem dX8_findDepartures_31 : decode cX8_findDepartures 31 = .ok (.iload_n 1, 1) := by decide +kernel
theorem dX8_findDepartures_32 : decode cX8_findDepartures 32 = .ok (.iload_n 2, 1) := by decide +kernel
theorem dX8_findDepartures_33 : decode cX8_findDepartures 33 = .ok (.iload_n 3, 1) := by decide +kernel
theorem dX8_findDepartures_34 : decode cX8_findDepartures 34 = .ok (.iload 4, 2) := by decide +kernel
theorem dX8_findDepartures_36 : decode cX8_findDepartures 36 = .ok (.invokevirtual 204, 3) := by decide +kernel
theorem dX8_findDepartures_39 : decode cX8_findDepartures 39 = .ok (.istore 5, 2) := by decide +kernel
theorem dX8_findDepartures_41 : decode cX8_findDepartures 41 = .ok (.iload 4, 2) := by decide +kernel
theorem dX8_findDepartures_43 : decode cX8_findDepartures 43 = .ok (.iconst 1, 1) := by decide +kernel
theorem dX8_findDepartures_44 : decode cX8_findDepartures 44 = .ok (.iadd, 1) := by decide +kernel
theorem dX8_findDepartures_45 : decode cX8_findDepartures 45 = .ok (.sipush 1440, 3) := by decide +kernel
theorem dX8_findDepartures_48 : decode cX8_findDepartures 48 = .ok (.if_icmp .ge 17, 3) := by decide +kernel
theorem dX8_findDepartures_51 : decode cX8_findDepartures 51 = .ok (.aload_n 0, 1) := by decide +kernel
theorem dX8_findDepartures_52 : decode cX8_findDepartures 52 = .ok (.iload_n 1, 1) := by decide +kernel
theorem dX8_findDepartures_53 : decode cX8_findDepartures 53 = .ok (.iload_n 2, 1) := by decide +kernel
theorem dX8_findDepartures_54 : decode cX8_findDepartures 54 = .ok (.iload_n 3, 1) := by decide +kernel
theorem dX8_findDepartures_55 : decode cX8_findDepartures 55 = .ok (.iload 4, 2) := by decide +kernel
theorem dX8_findDepartures_57 : decode cX8_findDepartures 57 = .ok (.iconst 1, 1) := by decide +kernel
theorem dX8_findDepartures_58 : decode cX8_findDepartures 58 = .ok (.iadd, 1) := by decide +kernel
theorem dX8_findDepartures_59 : decode cX8_findDepartures 59 = .ok (.invokevirtual 204, 3) := by decide +kernel
theorem dX8_findDepartures_62 : decode cX8_findDepartures 62 = .ok (.goto 4, 3) := by decide +kernel
theorem dX8_findDepartures_65 : decode cX8_findDepartures 65 = .ok (.iconst (-1), 1) := by decide +kernel
theorem dX8_findDepartures_66 : decode cX8_findDepartures 66 = .ok (.istore 6, 2) := by decide +kernel
theorem dX8_findDepartures_68 : decode cX8_findDepartures 68 = .ok (.iload 5, 2) := by decide +kernel
theorem dX8_findDepartures_70 : decode cX8_findDepartures 70 = .ok (.iconst (-1), 1) := by decide +kernel
theorem dX8_findDepartures_71 : decode cX8_findDepartures 71 = .ok (.if_icmp .eq 40, 3) := by decide +kernel
theorem dX8_findDepartures_74 : decode cX8_findDepartures 74 = .ok (.iload 6, 2) := by decide +kernel
theorem dX8_findDepartures_76 : decode cX8_findDepartures 76 = .ok (.iconst (-1), 1) := by decide +kernel
theorem dX8_findDepartures_77 : decode cX8_findDepartures 77 = .ok (.if_icmp .eq 13, 3) := by decide +kernel
theorem dX8_findDepartures_80 : decode cX8_findDepartures 80 = .ok (.iload 6, 2) := by decide +kernel
theorem dX8_findDepartures_82 : decode cX8_findDepartures 82 = .ok (.iload 5, 2) := by decide +kernel
theorem dX8_findDepartures_84 : decode cX8_findDepartures 84 = .ok (.if_icmp .gt 6, 3) := by decide +kernel
theorem dX8_findDepartures_87 : decode cX8_findDepartures 87 = .ok (.goto 24, 3) := by decide +kernel
theorem dX8_findDepartures_90 : decode cX8_findDepartures 90 = .ok (.aload_n 0, 1) := by decide +kernel
theorem dX8_findDepartures_91 : decode cX8_findDepartures 91 = .ok (.getfield 91, 3) := by decide +kernel
theorem dX8_findDepartures_94 : decode cX8_findDepartures 94 = .ok (.aload_n 0, 1) := by decide +kernel
theorem dX8_findDepartures_95 : decode cX8_findDepartures 95 = .ok (.getfield 228, 3) := by decide +kernel
theorem dX8_findDepartures_98 : decode cX8_findDepartures 98 = .ok (.iload 4, 2) := by decide +kernel
theorem dX8_findDepartures_100 : decode cX8_findDepartures 100 = .ok (.iastore, 1) := by decide +kernel
theorem dX8_findDepartures_101 : decode cX8_findDepartures 101 = .ok (.aload_n 0, 1) := by decide +kernel
theorem dX8_findDepartures_102 : decode cX8_findDepartures 102 = .ok (.aload_n 0, 1) := by decide +kernel
theorem dX8_findDepartures_103 : decode cX8_findDepartures 103 = .ok (.getfield 228, 3) := by decide +kernel
theorem dX8_findDepartures_106 : decode cX8_findDepartures 106 = .ok (.iconst 1, 1) := by decide +kernel
theorem dX8_findDepartures_107 : decode cX8_findDepartures 107 = .ok (.iadd, 1) := by decide +kernel
theorem dX8_findDepartures_108 : decode cX8_findDepartures 108 = .ok (.putfield 228, 3) := by decide +kernel
theorem dX8_findDepartures_111 : decode cX8_findDepartures 111 = .ok (.iinc 4 1, 3) := by decide +kernel
theorem dX8_findDepartures_114 : decode cX8_findDepartures 114 = .ok (.goto (-106), 3) := by decide +kernel
theorem dX8_findDepartures_117 : decode cX8_findDepartures 117 = .ok (.return_, 1) := by decide +kernel
theorem dX8_isGone_0 : decode cX8_isGone 0 = .ok (.iconst 0, 1) := by decide +kernel
theorem dX8_isGone_1 : decode cX8_isGone 1 = .ok (.istore 4, 2) := by decide +kernel
theorem dX8_isGone_3 : decode cX8_isGone 3 = .ok (.iload 4, 2) := by decide +kernel
theorem dX8_isGone_5 : decode cX8_isGone 5 = .ok (.aload_n 0, 1) := by decide +kernel
theorem dX8_isGone_6 : decode cX8_isGone 6 = .ok (.getfield 97, 3) := by decide +kernel
theorem dX8_isGone_9 : decode cX8_isGone 9 = .ok (.if_icmp .ge 67, 3) := by decide +kernel
theorem dX8_isGone_12 : decode cX8_isGone 12 = .ok (.aload_n 0, 1) := by decide +kernel
theorem dX8_isGone_13 : decode cX8_isGone 13 = .ok (.iload 4, 2) := by decide +kernel
theorem dX8_isGone_15 : decode cX8_isGone 15 = .ok (.iload_n 1, 1) := by decide +kernel
theorem dX8_isGone_16 : decode cX8_isGone 16 = .ok (.invokevirtual 113, 3) := by decide +kernel
end
section
theorem dX8_isGone_19 : decode cX8_isGone 19 = .ok (.istore 5, 2) := by decide +kernel
theorem dX8_isGone_21 : decode cX8_isGone 21 = .ok (.aload_n 0, 1) := by decide +kernel
theorem dX8_isGone_22 : decode cX8_isGone 22 = .ok (.iload 4, 2) := by decide +kernel
theorem dX8_isGone_24 : decode cX8_isGone 24 = .ok (.iload_n 2, 1) := by decide +kernel
theorem dX8_isGone_25 : decode cX8_isGone 25 = .ok (.invokevirtual 179, 3) := by decide +kernel
theorem dX8_isGone_28 : decode cX8_isGone 28 = .ok (.ifCond .eq 42, 3) := by decide +kernel
theorem dX8_isGone_31 : decode cX8_isGone 31 = .ok (.iload 5, 2) := by decide +kernel
theorem dX8_isGone_33 : decode cX8_isGone 33 = .ok (.iconst (-1), 1) := by decide +kernel
theorem dX8_isGone_34 : decode cX8_isGone 34 = .ok (.if_icmp .eq 36, 3) := by decide +kernel
theorem dX8_isGone_37 : decode cX8_isGone 37 = .ok (.iload 5, 2) := by decide +kernel
theorem dX8_isGone_39 : decode cX8_isGone 39 = .ok (.aload_n 0, 1) := by decide +kernel
theorem dX8_isGone_40 : decode cX8_isGone 40 = .ok (.getfield 17, 3) := by decide +kernel
theorem dX8_isGone_43 : decode cX8_isGone 43 = .ok (.iload 4, 2) := by decide +kernel
theorem dX8_isGone_45 : decode cX8_isGone 45 = .ok (.iaload, 1) := by decide +kernel
theorem dX8_isGone_46 : decode cX8_isGone 46 = .ok (.iconst 1, 1) := by decide +kernel
theorem dX8_isGone_47 : decode cX8_isGone 47 = .ok (.isub, 1) := by decide +kernel
theorem dX8_isGone_48 : decode cX8_isGone 48 = .ok (.if_icmp .ge 22, 3) := by decide +kernel
theorem dX8_isGone_51 : decode cX8_isGone 51 = .ok (.aload_n 0, 1) := by decide +kernel
theorem dX8_isGone_52 : decode cX8_isGone 52 = .ok (.getfield 26, 3) := by decide +kernel
theorem dX8_isGone_55 : decode cX8_isGone 55 = .ok (.bipush 7, 2) := by decide +kernel
theorem dX8_isGone_57 : decode cX8_isGone 57 = .ok (.iload 4, 2) := by decide +kernel
theorem dX8_isGone_59 : decode cX8_isGone 59 = .ok (.imul, 1) := by decide +kernel
theorem dX8_isGone_60 : decode cX8_isGone 60 = .ok (.iload 5, 2) := by decide +kernel
theorem dX8_isGone_62 : decode cX8_isGone 62 = .ok (.iadd, 1) := by decide +kernel
theorem dX8_isGone_63 : decode cX8_isGone 63 = .ok (.iaload, 1) := by decide +kernel
theorem dX8_isGone_64 : decode cX8_isGone 64 = .ok (.iload_n 3, 1) := by decide +kernel
theorem dX8_isGone_65 : decode cX8_isGone 65 = .ok (.if_icmp .ne 5, 3) := by decide +kernel
theorem dX8_isGone_68 : decode cX8_isGone 68 = .ok (.iconst 1, 1) := by decide +kernel
theorem dX8_isGone_69 : decode cX8_isGone 69 = .ok (.ireturn, 1) := by decide +kernel
theorem dX8_isGone_70 : decode cX8_isGone 70 = .ok (.iinc 4 1, 3) := by decide +kernel
theorem dX8_isGone_73 : decode cX8_isGone 73 = .ok (.goto (-70), 3) := by decide +kernel
theorem dX8_isGone_76 : decode cX8_isGone 76 = .ok (.iconst 0, 1) := by decide +kernel
theorem dX8_isGone_77 : decode cX8_isGone 77 = .ok (.ireturn, 1) := by decide +kernel
theorem dX8_canDepart_0 : decode cX8_canDepart 0 = .ok (.aload_n 0, 1) := by decide +kernel
theorem dX8_canDepart_1 : decode cX8_canDepart 1 = .ok (.iload_n 1, 1) := by decide +kernel
theorem dX8_canDepart_2 : decode cX8_canDepart 2 = .ok (.invokevirtual 107, 3) := by decide +kernel
theorem dX8_canDepart_5 : decode cX8_canDepart 5 = .ok (.ifCond .eq 30, 3) := by decide +kernel
theorem dX8_canDepart_8 : decode cX8_canDepart 8 = .ok (.aload_n 0, 1) := by decide +kernel
theorem dX8_canDepart_9 : decode cX8_canDepart 9 = .ok (.iload_n 2, 1) := by decide +kernel
theorem dX8_canDepart_10 : decode cX8_canDepart 10 = .ok (.invokevirtual 107, 3) := by decide +kernel
theorem dX8_canDepart_13 : decode cX8_canDepart 13 = .ok (.ifCond .eq 22, 3) := by decide +kernel
theorem dX8_canDepart_16 : decode cX8_canDepart 16 = .ok (.iload_n 1, 1) := by decide +kernel
theorem dX8_canDepart_17 : decode cX8_canDepart 17 = .ok (.iload_n 2, 1) := by decide +kernel
theorem dX8_canDepart_18 : decode cX8_canDepart 18 = .ok (.if_icmp .eq 17, 3) := by decide +kernel
theorem dX8_canDepart_21 : decode cX8_canDepart 21 = .ok (.iload_n 3, 1) := by decide +kernel
theorem dX8_canDepart_22 : decode cX8_canDepart 22 = .ok (.ifCond .lt 13, 3) := by decide +kernel
theorem dX8_canDepart_25 : decode cX8_canDepart 25 = .ok (.iload_n 3, 1) := by decide +kernel
theorem dX8_canDepart_26 : decode cX8_canDepart 26 = .ok (.bipush 6, 2) := by decide +kernel
theorem dX8_canDepart_28 : decode cX8_canDepart 28 = .ok (.if_icmp .gt 7, 3) := by decide +kernel
theorem dX8_canDepart_31 : decode cX8_canDepart 31 = .ok (.iconst 1, 1) := by decide +kernel
theorem dX8_canDepart_32 : decode cX8_canDepart 32 = .ok (.goto 4, 3) := by decide +kernel
theorem dX8_canDepart_35 : decode cX8_canDepart 35 = .ok (.iconst 0, 1) := by decide +kernel
theorem dX8_canDepart_36 : decode cX8_canDepart 36 = .ok (.ireturn, 1) := by decide +kernel
theorem dX8_departures_0 : decode cX8_departures 0 = .ok (.aload_n 0, 1) := by decide +kernel
theorem dX8_departures_1 : decode cX8_departures 1 = .ok (.iconst 0, 1) := by decide +kernel
theorem dX8_departures_2 : decode cX8_departures 2 = .ok (.putfield 94, 3) := by decide +kernel
theorem dX8_departures_5 : decode cX8_departures 5 = .ok (.aload_n 0, 1) := by decide +kernel
theorem dX8_departures_6 : decode cX8_departures 6 = .ok (.iload_n 1, 1) := by decide +kernel
theorem dX8_departures_7 : decode cX8_departures 7 = .ok (.iload_n 2, 1) := by decide +kernel
theorem dX8_departures_8 : decode cX8_departures 8 = .ok (.iload_n 3, 1) := by decide +kernel
theorem dX8_departures_9 : decode cX8_departures 9 = .ok (.invokevirtual 234, 3) := by decide +kernel
theorem dX8_departures_12 : decode cX8_departures 12 = .ok (.ifCond .ne 5, 3) := by decide +kernel
theorem dX8_departures_15 : decode cX8_departures 15 = .ok (.iconst (-1), 1) := by decide +kernel
theorem dX8_departures_16 : decode cX8_departures 16 = .ok (.ireturn, 1) := by decide +kernel
theorem dX8_departures_17 : decode cX8_departures 17 = .ok (.aload_n 0, 1) := by decide +kernel
theorem dX8_departures_18 : decode cX8_departures 18 = .ok (.iload_n 1, 1) := by decide +kernel
theorem dX8_departures_19 : decode cX8_departures 19 = .ok (.iload_n 2, 1) := by decide +kernel
theorem dX8_departures_20 : decode cX8_departures 20 = .ok (.iload_n 3, 1) := by decide +kernel
theorem dX8_departures_21 : decode cX8_departures 21 = .ok (.invokevirtual 237, 3) := by decide +kernel
theorem dX8_departures_24 : decode cX8_departures 24 = .ok (.aload_n 0, 1) := by decide +kernel
theorem dX8_departures_25 : decode cX8_departures 25 = .ok (.getfield 228, 3) := by decide +kernel
theorem dX8_departures_28 : decode cX8_departures 28 = .ok (.ireturn, 1) := by decide +kernel
theorem dX8_departure_0 : decode cX8_departure 0 = .ok (.aload_n 0, 1) := by decide +kernel
theorem dX8_departure_1 : decode cX8_departure 1 = .ok (.iconst 0, 1) := by decide +kernel
theorem dX8_departure_2 : decode cX8_departure 2 = .ok (.putfield 94, 3) := by decide +kernel
theorem dX8_departure_5 : decode cX8_departure 5 = .ok (.aload_n 0, 1) := by decide +kernel
theorem dX8_departure_6 : decode cX8_departure 6 = .ok (.iload_n 1, 1) := by decide +kernel
theorem dX8_departure_7 : decode cX8_departure 7 = .ok (.iload_n 2, 1) := by decide +kernel
theorem dX8_departure_8 : decode cX8_departure 8 = .ok (.iload_n 3, 1) := by decide +kernel
theorem dX8_departure_9 : decode cX8_departure 9 = .ok (.invokevirtual 234, 3) := by decide +kernel
theorem dX8_departure_12 : decode cX8_departure 12 = .ok (.ifCond .ne 5, 3) := by decide +kernel
theorem dX8_departure_15 : decode cX8_departure 15 = .ok (.iconst (-1), 1) := by decide +kernel
theorem dX8_departure_16 : decode cX8_departure 16 = .ok (.ireturn, 1) := by decide +kernel
theorem dX8_departure_17 : decode cX8_departure 17 = .ok (.aload_n 0, 1) := by decide +kernel
theorem dX8_departure_18 : decode cX8_departure 18 = .ok (.iload_n 1, 1) := by decide +kernel
theorem dX8_departure_19 : decode cX8_departure 19 = .ok (.iload_n 2, 1) := by decide +kernel
theorem dX8_departure_20 : decode cX8_departure 20 = .ok (.iload_n 3, 1) := by decide +kernel
theorem dX8_departure_21 : decode cX8_departure 21 = .ok (.invokevirtual 237, 3) := by decide +kernel
theorem dX8_departure_24 : decode cX8_departure 24 = .ok (.iload 4, 2) := by decide +kernel
theorem dX8_departure_26 : decode cX8_departure 26 = .ok (.ifCond .lt 22, 3) := by decide +kernel
theorem dX8_departure_29 : decode cX8_departure 29 = .ok (.iload 4, 2) := by decide +kernel
theorem dX8_departure_31 : decode cX8_departure 31 = .ok (.aload_n 0, 1) := by decide +kernel
theorem dX8_departure_32 : decode cX8_departure 32 = .ok (.getfield 228, 3) := by decide +kernel
theorem dX8_departure_35 : decode cX8_departure 35 = .ok (.if_icmp .ge 13, 3) := by decide +kernel
theorem dX8_departure_38 : decode cX8_departure 38 = .ok (.aload_n 0, 1) := by decide +kernel
theorem dX8_departure_39 : decode cX8_departure 39 = .ok (.getfield 91, 3) := by decide +kernel
theorem dX8_departure_42 : decode cX8_departure 42 = .ok (.iload 4, 2) := by decide +kernel
theorem dX8_departure_44 : decode cX8_departure 44 = .ok (.iaload, 1) := by decide +kernel
theorem dX8_departure_45 : decode cX8_departure 45 = .ok (.goto 4, 3) := by decide +kernel
theorem dX8_departure_48 : decode cX8_departure 48 = .ok (.iconst (-1), 1) := by decide +kernel
theorem dX8_departure_49 : decode cX8_departure 49 = .ok (.ireturn, 1) := by decide +kernel
theorem dJ6_bitCount_0f7a4_0 : decode cJ6_bitCount_0f7a4 0 = .ok (.iload_n 0, 1) := by decide +kernel
theorem dJ6_bitCount_0f7a4_1 : decode cJ6_bitCount_0f7a4 1 = .ok (.iload_n 0, 1) := by decide +kernel
theorem dJ6_bitCount_0f7a4_2 : decode cJ6_bitCount_0f7a4 2 = .ok (.iconst 1, 1) := by decide +kernel
theorem dJ6_bitCount_0f7a4_3 : decode cJ6_bitCount_0f7a4 3 = .ok (.iushr, 1) := by decide +kernel
theorem dJ6_bitCount_0f7a4_4 : decode cJ6_bitCount_0f7a4 4 = .ok (.ldc_w 265, 3) := by decide +kernel
theorem dJ6_bitCount_0f7a4_7 : decode cJ6_bitCount_0f7a4 7 = .ok (.iand, 1) := by decide +kernel
theorem dJ6_bitCount_0f7a4_8 : decode cJ6_bitCount_0f7a4 8 = .ok (.isub, 1) := by decide +kernel
theorem dJ6_bitCount_0f7a4_9 : decode cJ6_bitCount_0f7a4 9 = .ok (.istore_n 0, 1) := by decide +kernel
theorem dJ6_bitCount_0f7a4_10 : decode cJ6_bitCount_0f7a4 10 = .ok (.iload_n 0, 1) := by decide +kernel
theorem dJ6_bitCount_0f7a4_11 : decode cJ6_bitCount_0f7a4 11 = .ok (.ldc_w 266, 3) := by decide +kernel
theorem dJ6_bitCount_0f7a4_14 : decode cJ6_bitCount_0f7a4 14 = .ok (.iand, 1) := by decide +kernel
theorem dJ6_bitCount_0f7a4_15 : decode cJ6_bitCount_0f7a4 15 = .ok (.iload_n 0, 1) := by decide +kernel
theorem dJ6_bitCount_0f7a4_16 : decode cJ6_bitCount_0f7a4 16 = .ok (.iconst 2, 1) := by decide +kernel
theorem dJ6_bitCount_0f7a4_17 : decode cJ6_bitCount_0f7a4 17 = .ok (.iushr, 1) := by decide +kernel
theorem dJ6_bitCount_0f7a4_18 : decode cJ6_bitCount_0f7a4 18 = .ok (.ldc_w 266, 3) := by decide +kernel
theorem dJ6_bitCount_0f7a4_21 : decode cJ6_bitCount_0f7a4 21 = .ok (.iand, 1) := by decide +kernel
theorem dJ6_bitCount_0f7a4_22 : decode cJ6_bitCount_0f7a4 22 = .ok (.iadd, 1) := by decide +kernel
theorem dJ6_bitCount_0f7a4_23 : decode cJ6_bitCount_0f7a4 23 = .ok (.istore_n 0, 1) := by decide +kernel
theorem dJ6_bitCount_0f7a4_24 : decode cJ6_bitCount_0f7a4 24 = .ok (.iload_n 0, 1) := by decide +kernel
theorem dJ6_bitCount_0f7a4_25 : decode cJ6_bitCount_0f7a4 25 = .ok (.iload_n 0, 1) := by decide +kernel
theorem dJ6_bitCount_0f7a4_26 : decode cJ6_bitCount_0f7a4 26 = .ok (.iconst 4, 1) := by decide +kernel
theorem dJ6_bitCount_0f7a4_27 : decode cJ6_bitCount_0f7a4 27 = .ok (.iushr, 1) := by decide +kernel
theorem dJ6_bitCount_0f7a4_28 : decode cJ6_bitCount_0f7a4 28 = .ok (.iadd, 1) := by decide +kernel
theorem dJ6_bitCount_0f7a4_29 : decode cJ6_bitCount_0f7a4 29 = .ok (.ldc_w 267, 3) := by decide +kernel
theorem dJ6_bitCount_0f7a4_32 : decode cJ6_bitCount_0f7a4 32 = .ok (.iand, 1) := by decide +kernel
theorem dJ6_bitCount_0f7a4_33 : decode cJ6_bitCount_0f7a4 33 = .ok (.istore_n 0, 1) := by decide +kernel
theorem dJ6_bitCount_0f7a4_34 : decode cJ6_bitCount_0f7a4 34 = .ok (.iload_n 0, 1) := by decide +kernel
theorem dJ6_bitCount_0f7a4_35 : decode cJ6_bitCount_0f7a4 35 = .ok (.iload_n 0, 1) := by decide +kernel
theorem dJ6_bitCount_0f7a4_36 : decode cJ6_bitCount_0f7a4 36 = .ok (.bipush 8, 2) := by decide +kernel
theorem dJ6_bitCount_0f7a4_38 : decode cJ6_bitCount_0f7a4 38 = .ok (.iushr, 1) := by decide +kernel
theorem dJ6_bitCount_0f7a4_39 : decode cJ6_bitCount_0f7a4 39 = .ok (.iadd, 1) := by decide +kernel
theorem dJ6_bitCount_0f7a4_40 : decode cJ6_bitCount_0f7a4 40 = .ok (.istore_n 0, 1) := by decide +kernel
theorem dJ6_bitCount_0f7a4_41 : decode cJ6_bitCount_0f7a4 41 = .ok (.iload_n 0, 1) := by decide +kernel
theorem dJ6_bitCount_0f7a4_42 : decode cJ6_bitCount_0f7a4 42 = .ok (.iload_n 0, 1) := by decide +kernel
theorem dJ6_bitCount_0f7a4_43 : decode cJ6_bitCount_0f7a4 43 = .ok (.bipush 16, 2) := by decide +kernel
theorem dJ6_bitCount_0f7a4_45 : decode cJ6_bitCount_0f7a4 45 = .ok (.iushr, 1) := by decide +kernel
theorem dJ6_bitCount_0f7a4_46 : decode cJ6_bitCount_0f7a4 46 = .ok (.iadd, 1) := by decide +kernel
theorem dJ6_bitCount_0f7a4_47 : decode cJ6_bitCount_0f7a4 47 = .ok (.istore_n 0, 1) := by decide +kernel
theorem dJ6_bitCount_0f7a4_48 : decode cJ6_bitCount_0f7a4 48 = .ok (.iload_n 0, 1) := by decide +kernel
theorem dJ6_bitCount_0f7a4_49 : decode cJ6_bitCount_0f7a4 49 = .ok (.bipush 63, 2) := by decide +kernel
theorem dJ6_bitCount_0f7a4_51 : decode cJ6_bitCount_0f7a4 51 = .ok (.iand, 1) := by decide +kernel
theorem dJ6_bitCount_0f7a4_52 : decode cJ6_bitCount_0f7a4 52 = .ok (.ireturn, 1) := by decide +kernel
theorem dJ9_max_7cf53_0 : decode cJ9_max_7cf53 0 = .ok (.iload_n 0, 1) := by decide +kernel
theorem dJ9_max_7cf53_1 : decode cJ9_max_7cf53 1 = .ok (.iload_n 1, 1) := by decide +kernel
theorem dJ9_max_7cf53_2 : decode cJ9_max_7cf53 2 = .ok (.if_icmp .lt 7, 3) := by decide +kernel
theorem dJ9_max_7cf53_5 : decode cJ9_max_7cf53 5 = .ok (.iload_n 0, 1) := by decide +kernel
theorem dJ9_max_7cf53_6 : decode cJ9_max_7cf53 6 = .ok (.goto 4, 3) := by decide +kernel
theorem dJ9_max_7cf53_9 : decode cJ9_max_7cf53 9 = .ok (.iload_n 1, 1) := by decide +kernel
theorem dJ9_max_7cf53_10 : decode cJ9_max_7cf53 10 = .ok (.ireturn, 1) := by decide +kernel
theorem dJ9_min_7cf53_0 : decode cJ9_min_7cf53 0 = .ok (.iload_n 0, 1) := by decide +kernel
theorem dJ9_min_7cf53_1 : decode cJ9_min_7cf53 1 = .ok (.iload_n 1, 1) := by decide +kernel
theorem dJ9_min_7cf53_2 : decode cJ9_min_7cf53 2 = .ok (.if_icmp .gt 7, 3) := by decide +kernel
theorem dJ9_min_7cf53_5 : decode cJ9_min_7cf53 5 = .ok (.iload_n 0, 1) := by decide +kernel
theorem dJ9_min_7cf53_6 : decode cJ9_min_7cf53 6 = .ok (.goto 4, 3) := by decide +kernel
theorem dJ9_min_7cf53_9 : decode cJ9_min_7cf53 9 = .ok (.iload_n 1, 1) := by decide +kernel
theorem dJ9_min_7cf53_10 : decode cJ9_min_7cf53 10 = .ok (.ireturn, 1) := by decide +kernel
theorem dJ7_fill_53178_0 : decode cJ7_fill_53178 0 = .ok (.iconst 0, 1) := by decide +kernel
theorem dJ7_fill_53178_1 : decode cJ7_fill_53178 1 = .ok (.istore_n 2, 1) := by decide +kernel
theorem dJ7_fill_53178_2 : decode cJ7_fill_53178 2 = .ok (.aload_n 0, 1) := by decide +kernel
theorem dJ7_fill_53178_3 : decode cJ7_fill_53178 3 = .ok (.arraylength, 1) := by decide +kernel
theorem dJ7_fill_53178_4 : decode cJ7_fill_53178 4 = .ok (.istore_n 3, 1) := by decide +kernel
theorem dJ7_fill_53178_5 : decode cJ7_fill_53178 5 = .ok (.iload_n 2, 1) := by decide +kernel
theorem dJ7_fill_53178_6 : decode cJ7_fill_53178 6 = .ok (.iload_n 3, 1) := by decide +kernel
theorem dJ7_fill_53178_7 : decode cJ7_fill_53178 7 = .ok (.if_icmp .ge 13, 3) := by decide +kernel
theorem dJ7_fill_53178_10 : decode cJ7_fill_53178 10 = .ok (.aload_n 0, 1) := by decide +kernel
theorem dJ7_fill_53178_11 : decode cJ7_fill_53178 11 = .ok (.iload_n 2, 1) := by decide +kernel
theorem dJ7_fill_53178_12 : decode cJ7_fill_53178 12 = .ok (.iload_n 1, 1) := by decide +kernel
theorem dJ7_fill_53178_13 : decode cJ7_fill_53178 13 = .ok (.iastore, 1) := by decide +kernel
theorem dJ7_fill_53178_14 : decode cJ7_fill_53178 14 = .ok (.iinc 2 1, 3) := by decide +kernel
theorem dJ7_fill_53178_17 : decode cJ7_fill_53178 17 = .ok (.goto (-12), 3) := by decide +kernel
theorem dJ7_fill_53178_20 : decode cJ7_fill_53178 20 = .ok (.return_, 1) := by decide +kernel
theorem dL_law_0 : decode cL_law 0 = .ok (.new 7, 3) := by decide +kernel
theorem dL_law_3 : decode cL_law 3 = .ok (.dup, 1) := by decide +kernel
theorem dL_law_4 : decode cL_law 4 = .ok (.invokespecial 9, 3) := by decide +kernel
theorem dL_law_7 : decode cL_law 7 = .ok (.astore_n 1, 1) := by decide +kernel
theorem dL_law_8 : decode cL_law 8 = .ok (.new 10, 3) := by decide +kernel
theorem dL_law_11 : decode cL_law 11 = .ok (.dup, 1) := by decide +kernel
theorem dL_law_12 : decode cL_law 12 = .ok (.invokespecial 12, 3) := by decide +kernel
theorem dL_law_15 : decode cL_law 15 = .ok (.astore_n 2, 1) := by decide +kernel
theorem dL_law_16 : decode cL_law 16 = .ok (.iconst 0, 1) := by decide +kernel
theorem dL_law_17 : decode cL_law 17 = .ok (.istore_n 3, 1) := by decide +kernel
theorem dL_law_18 : decode cL_law 18 = .ok (.iload_n 3, 1) := by decide +kernel
theorem dL_law_19 : decode cL_law 19 = .ok (.aload_n 0, 1) := by decide +kernel
theorem dL_law_20 : decode cL_law 20 = .ok (.arraylength, 1) := by decide +kernel
theorem dL_law_21 : decode cL_law 21 = .ok (.bipush 6, 2) := by decide +kernel
theorem dL_law_23 : decode cL_law 23 = .ok (.isub, 1) := by decide +kernel
theorem dL_law_24 : decode cL_law 24 = .ok (.if_icmp .gt 750, 3) := by decide +kernel
theorem dL_law_27 : decode cL_law 27 = .ok (.aload_n 0, 1) := by decide +kernel
theorem dL_law_28 : decode cL_law 28 = .ok (.iload_n 3, 1) := by decide +kernel
theorem dL_law_29 : decode cL_law 29 = .ok (.iaload, 1) := by decide +kernel
theorem dL_law_30 : decode cL_law 30 = .ok (.bipush 31, 2) := by decide +kernel
theorem dL_law_32 : decode cL_law 32 = .ok (.iand, 1) := by decide +kernel
theorem dL_law_33 : decode cL_law 33 = .ok (.tableswitch 735 0 19 #[95, 118, 171, 204, 227, 260, 293, 316, 339, 372, 395, 418, 441, 484, 507, 540, 553, 576, 639, 682], 95) := by decide +kernel
theorem dL_law_128 : decode cL_law 128 = .ok (.aload_n 1, 1) := by decide +kernel
theorem dL_law_129 : decode cL_law 129 = .ok (.aload_n 0, 1) := by decide +kernel
theorem dL_law_130 : decode cL_law 130 = .ok (.iload_n 3, 1) := by decide +kernel
theorem dL_law_131 : decode cL_law 131 = .ok (.iconst 1, 1) := by decide +kernel
theorem dL_law_132 : decode cL_law 132 = .ok (.iadd, 1) := by decide +kernel
theorem dL_law_133 : decode cL_law 133 = .ok (.iaload, 1) := by decide +kernel
theorem dL_law_134 : decode cL_law 134 = .ok (.invokevirtual 13, 3) := by decide +kernel
theorem dL_law_137 : decode cL_law 137 = .ok (.aload_n 2, 1) := by decide +kernel
theorem dL_law_138 : decode cL_law 138 = .ok (.aload_n 0, 1) := by decide +kernel
theorem dL_law_139 : decode cL_law 139 = .ok (.iload_n 3, 1) := by decide +kernel
theorem dL_law_140 : decode cL_law 140 = .ok (.iconst 1, 1) := by decide +kernel
theorem dL_law_141 : decode cL_law 141 = .ok (.iadd, 1) := by decide +kernel
theorem dL_law_142 : decode cL_law 142 = .ok (.iaload, 1) := by decide +kernel
theorem dL_law_143 : decode cL_law 143 = .ok (.invokevirtual 17, 3) := by decide +kernel
theorem dL_law_146 : decode cL_law 146 = .ok (.if_icmp .eq 622, 3) := by decide +kernel
theorem dL_law_149 : decode cL_law 149 = .ok (.iconst 0, 1) := by decide +kernel
theorem dL_law_150 : decode cL_law 150 = .ok (.ireturn, 1) := by decide +kernel
theorem dL_law_151 : decode cL_law 151 = .ok (.aload_n 1, 1) := by decide +kernel
theorem dL_law_152 : decode cL_law 152 = .ok (.aload_n 0, 1) := by decide +kernel
theorem dL_law_153 : decode cL_law 153 = .ok (.iload_n 3, 1) := by decide +kernel
theorem dL_law_154 : decode cL_law 154 = .ok (.iconst 1, 1) := by decide +kernel
theorem dL_law_155 : decode cL_law 155 = .ok (.iadd, 1) := by decide +kernel
theorem dL_law_156 : decode cL_law 156 = .ok (.iaload, 1) := by decide +kernel
theorem dL_law_157 : decode cL_law 157 = .ok (.aload_n 0, 1) := by decide +kernel
theorem dL_law_158 : decode cL_law 158 = .ok (.iload_n 3, 1) := by decide +kernel
theorem dL_law_159 : decode cL_law 159 = .ok (.iconst 2, 1) := by decide +kernel
theorem dL_law_160 : decode cL_law 160 = .ok (.iadd, 1) := by decide +kernel
theorem dL_law_161 : decode cL_law 161 = .ok (.iaload, 1) := by decide +kernel
theorem dL_law_162 : decode cL_law 162 = .ok (.aload_n 0, 1) := by decide +kernel
theorem dL_law_163 : decode cL_law 163 = .ok (.iload_n 3, 1) := by decide +kernel
theorem dL_law_164 : decode cL_law 164 = .ok (.iconst 3, 1) := by decide +kernel
theorem dL_law_165 : decode cL_law 165 = .ok (.iadd, 1) := by decide +kernel
theorem dL_law_166 : decode cL_law 166 = .ok (.iaload, 1) := by decide +kernel
theorem dL_law_167 : decode cL_law 167 = .ok (.aload_n 0, 1) := by decide +kernel
theorem dL_law_168 : decode cL_law 168 = .ok (.iload_n 3, 1) := by decide +kernel
theorem dL_law_169 : decode cL_law 169 = .ok (.iconst 4, 1) := by decide +kernel
theorem dL_law_170 : decode cL_law 170 = .ok (.iadd, 1) := by decide +kernel
theorem dL_law_171 : decode cL_law 171 = .ok (.iaload, 1) := by decide +kernel
theorem dL_law_172 : decode cL_law 172 = .ok (.invokevirtual 18, 3) := by decide +kernel
theorem dL_law_175 : decode cL_law 175 = .ok (.aload_n 2, 1) := by decide +kernel
theorem dL_law_176 : decode cL_law 176 = .ok (.aload_n 0, 1) := by decide +kernel
theorem dL_law_177 : decode cL_law 177 = .ok (.iload_n 3, 1) := by decide +kernel
theorem dL_law_178 : decode cL_law 178 = .ok (.iconst 1, 1) := by decide +kernel
theorem dL_law_179 : decode cL_law 179 = .ok (.iadd, 1) := by decide +kernel
theorem dL_law_180 : decode cL_law 180 = .ok (.iaload, 1) := by decide +kernel
theorem dL_law_181 : decode cL_law 181 = .ok (.aload_n 0, 1) := by decide +kernel
theorem dL_law_182 : decode cL_law 182 = .ok (.iload_n 3, 1) := by decide +kernel
theorem dL_law_183 : decode cL_law 183 = .ok (.iconst 2, 1) := by decide +kernel
theorem dL_law_184 : decode cL_law 184 = .ok (.iadd, 1) := by decide +kernel
theorem dL_law_185 : decode cL_law 185 = .ok (.iaload, 1) := by decide +kernel
theorem dL_law_186 : decode cL_law 186 = .ok (.aload_n 0, 1) := by decide +kernel
theorem dL_law_187 : decode cL_law 187 = .ok (.iload_n 3, 1) := by decide +kernel
theorem dL_law_188 : decode cL_law 188 = .ok (.iconst 3, 1) := by decide +kernel
theorem dL_law_189 : decode cL_law 189 = .ok (.iadd, 1) := by decide +kernel
theorem dL_law_190 : decode cL_law 190 = .ok (.iaload, 1) := by decide +kernel
theorem dL_law_191 : decode cL_law 191 = .ok (.aload_n 0, 1) := by decide +kernel
theorem dL_law_192 : decode cL_law 192 = .ok (.iload_n 3, 1) := by decide +kernel
theorem dL_law_193 : decode cL_law 193 = .ok (.iconst 4, 1) := by decide +kernel
theorem dL_law_194 : decode cL_law 194 = .ok (.iadd, 1) := by decide +kernel
theorem dL_law_195 : decode cL_law 195 = .ok (.iaload, 1) := by decide +kernel
theorem dL_law_196 : decode cL_law 196 = .ok (.invokevirtual 22, 3) := by decide +kernel
theorem dL_law_199 : decode cL_law 199 = .ok (.if_icmp .eq 569, 3) := by decide +kernel
theorem dL_law_202 : decode cL_law 202 = .ok (.iconst 0, 1) := by decide +kernel
theorem dL_law_203 : decode cL_law 203 = .ok (.ireturn, 1) := by decide +kernel
theorem dL_law_204 : decode cL_law 204 = .ok (.aload_n 1, 1) := by decide +kernel
theorem dL_law_205 : decode cL_law 205 = .ok (.aload_n 0, 1) := by decide +kernel
theorem dL_law_206 : decode cL_law 206 = .ok (.iload_n 3, 1) := by decide +kernel
theorem dL_law_207 : decode cL_law 207 = .ok (.iconst 1, 1) := by decide +kernel
theorem dL_law_208 : decode cL_law 208 = .ok (.iadd, 1) := by decide +kernel
theorem dL_law_209 : decode cL_law 209 = .ok (.iaload, 1) := by decide +kernel
theorem dL_law_210 : decode cL_law 210 = .ok (.aload_n 0, 1) := by decide +kernel
theorem dL_law_211 : decode cL_law 211 = .ok (.iload_n 3, 1) := by decide +kernel
theorem dL_law_212 : decode cL_law 212 = .ok (.iconst 2, 1) := by decide +kernel
theorem dL_law_213 : decode cL_law 213 = .ok (.iadd, 1) := by decide +kernel
theorem dL_law_214 : decode cL_law 214 = .ok (.iaload, 1) := by decide +kernel
theorem dL_law_215 : decode cL_law 215 = .ok (.invokevirtual 23, 3) := by decide +kernel
theorem dL_law_218 : decode cL_law 218 = .ok (.aload_n 2, 1) := by decide +kernel
theorem dL_law_219 : decode cL_law 219 = .ok (.aload_n 0, 1) := by decide +kernel
theorem dL_law_220 : decode cL_law 220 = .ok (.iload_n 3, 1) := by decide +kernel
theorem dL_law_221 : decode cL_law 221 = .ok (.iconst 1, 1) := by decide +kernel
theorem dL_law_222 : decode cL_law 222 = .ok (.iadd, 1) := by decide +kernel
theorem dL_law_223 : decode cL_law 223 = .ok (.iaload, 1) := by decide +kernel
theorem dL_law_224 : decode cL_law 224 = .ok (.aload_n 0, 1) := by decide +kernel
theorem dL_law_225 : decode cL_law 225 = .ok (.iload_n 3, 1) := by decide +kernel
theorem dL_law_226 : decode cL_law 226 = .ok (.iconst 2, 1) := by decide +kernel
theorem dL_law_227 : decode cL_law 227 = .ok (.iadd, 1) := by decide +kernel
theorem dL_law_228 : decode cL_law 228 = .ok (.iaload, 1) := by decide +kernel
theorem dL_law_229 : decode cL_law 229 = .ok (.invokevirtual 27, 3) := by decide +kernel
theorem dL_law_232 : decode cL_law 232 = .ok (.if_icmp .eq 536, 3) := by decide +kernel
theorem dL_law_235 : decode cL_law 235 = .ok (.iconst 0, 1) := by decide +kernel
theorem dL_law_236 : decode cL_law 236 = .ok (.ireturn, 1) := by decide +kernel
theorem dL_law_237 : decode cL_law 237 = .ok (.aload_n 1, 1) := by decide +kernel
theorem dL_law_238 : decode cL_law 238 = .ok (.aload_n 0, 1) := by decide +kernel
theorem dL_law_239 : decode cL_law 239 = .ok (.iload_n 3, 1) := by decide +kernel
theorem dL_law_240 : decode cL_law 240 = .ok (.iconst 1, 1) := by decide +kernel
theorem dL_law_241 : decode cL_law 241 = .ok (.iadd, 1) := by decide +kernel
theorem dL_law_242 : decode cL_law 242 = .ok (.iaload, 1) := by decide +kernel
theorem dL_law_243 : decode cL_law 243 = .ok (.invokevirtual 28, 3) := by decide +kernel
theorem dL_law_246 : decode cL_law 246 = .ok (.aload_n 2, 1) := by decide +kernel
theorem dL_law_247 : decode cL_law 247 = .ok (.aload_n 0, 1) := by decide +kernel
theorem dL_law_248 : decode cL_law 248 = .ok (.iload_n 3, 1) := by decide +kernel
theorem dL_law_249 : decode cL_law 249 = .ok (.iconst 1, 1) := by decide +kernel
theorem dL_law_250 : decode cL_law 250 = .ok (.iadd, 1) := by decide +kernel
theorem dL_law_251 : decode cL_law 251 = .ok (.iaload, 1) := by decide +kernel
theorem dL_law_252 : decode cL_law 252 = .ok (.invokevirtual 32, 3) := by decide +kernel
theorem dL_law_255 : decode cL_law 255 = .ok (.if_icmp .eq 513, 3) := by decide +kernel
theorem dL_law_258 : decode cL_law 258 = .ok (.iconst 0, 1) := by decide +kernel
theorem dL_law_259 : decode cL_law 259 = .ok (.ireturn, 1) := by decide +kernel
theorem dL_law_260 : decode cL_law 260 = .ok (.aload_n 1, 1) := by decide +kernel
theorem dL_law_261 : decode cL_law 261 = .ok (.aload_n 0, 1) := by decide +kernel
theorem dL_law_262 : decode cL_law 262 = .ok (.iload_n 3, 1) := by decide +kernel
theorem dL_law_263 : decode cL_law 263 = .ok (.iconst 1, 1) := by decide +kernel
theorem dL_law_264 : decode cL_law 264 = .ok (.iadd, 1) := by decide +kernel
theorem dL_law_265 : decode cL_law 265 = .ok (.iaload, 1) := by decide +kernel
theorem dL_law_266 : decode cL_law 266 = .ok (.aload_n 0, 1) := by decide +kernel
theorem dL_law_267 : decode cL_law 267 = .ok (.iload_n 3, 1) := by decide +kernel
theorem dL_law_268 : decode cL_law 268 = .ok (.iconst 2, 1) := by decide +kernel
theorem dL_law_269 : decode cL_law 269 = .ok (.iadd, 1) := by decide +kernel
theorem dL_law_270 : decode cL_law 270 = .ok (.iaload, 1) := by decide +kernel
theorem dL_law_271 : decode cL_law 271 = .ok (.invokevirtual 33, 3) := by decide +kernel
theorem dL_law_274 : decode cL_law 274 = .ok (.aload_n 2, 1) := by decide +kernel
theorem dL_law_275 : decode cL_law 275 = .ok (.aload_n 0, 1) := by decide +kernel
theorem dL_law_276 : decode cL_law 276 = .ok (.iload_n 3, 1) := by decide +kernel
theorem dL_law_277 : decode cL_law 277 = .ok (.iconst 1, 1) := by decide +kernel
theorem dL_law_278 : decode cL_law 278 = .ok (.iadd, 1) := by decide +kernel
theorem dL_law_279 : decode cL_law 279 = .ok (.iaload, 1) := by decide +kernel
theorem dL_law_280 : decode cL_law 280 = .ok (.aload_n 0, 1) := by decide +kernel
theorem dL_law_281 : decode cL_law 281 = .ok (.iload_n 3, 1) := by decide +kernel
theorem dL_law_282 : decode cL_law 282 = .ok (.iconst 2, 1) := by decide +kernel
theorem dL_law_283 : decode cL_law 283 = .ok (.iadd, 1) := by decide +kernel
theorem dL_law_284 : decode cL_law 284 = .ok (.iaload, 1) := by decide +kernel
theorem dL_law_285 : decode cL_law 285 = .ok (.invokevirtual 36, 3) := by decide +kernel
theorem dL_law_288 : decode cL_law 288 = .ok (.if_icmp .eq 480, 3) := by decide +kernel
theorem dL_law_291 : decode cL_law 291 = .ok (.iconst 0, 1) := by decide +kernel
theorem dL_law_292 : decode cL_law 292 = .ok (.ireturn, 1) := by decide +kernel
theorem dL_law_293 : decode cL_law 293 = .ok (.aload_n 1, 1) := by decide +kernel
theorem dL_law_294 : decode cL_law 294 = .ok (.aload_n 0, 1) := by decide +kernel
theorem dL_law_295 : decode cL_law 295 = .ok (.iload_n 3, 1) := by decide +kernel
theorem dL_law_296 : decode cL_law 296 = .ok (.iconst 1, 1) := by decide +kernel
theorem dL_law_297 : decode cL_law 297 = .ok (.iadd, 1) := by decide +kernel
theorem dL_law_298 : decode cL_law 298 = .ok (.iaload, 1) := by decide +kernel
theorem dL_law_299 : decode cL_law 299 = .ok (.aload_n 0, 1) := by decide +kernel
theorem dL_law_300 : decode cL_law 300 = .ok (.iload_n 3, 1) := by decide +kernel
theorem dL_law_301 : decode cL_law 301 = .ok (.iconst 2, 1) := by decide +kernel
theorem dL_law_302 : decode cL_law 302 = .ok (.iadd, 1) := by decide +kernel
theorem dL_law_303 : decode cL_law 303 = .ok (.iaload, 1) := by decide +kernel
theorem dL_law_304 : decode cL_law 304 = .ok (.invokevirtual 37, 3) := by decide +kernel
theorem dL_law_307 : decode cL_law 307 = .ok (.aload_n 2, 1) := by decide +kernel
theorem dL_law_308 : decode cL_law 308 = .ok (.aload_n 0, 1) := by decide +kernel
theorem dL_law_309 : decode cL_law 309 = .ok (.iload_n 3, 1) := by decide +kernel
theorem dL_law_310 : decode cL_law 310 = .ok (.iconst 1, 1) := by decide +kernel
theorem dL_law_311 : decode cL_law 311 = .ok (.iadd, 1) := by decide +kernel
theorem dL_law_312 : decode cL_law 312 = .ok (.iaload, 1) := by decide +kernel
theorem dL_law_313 : decode cL_law 313 = .ok (.aload_n 0, 1) := by decide +kernel
theorem dL_law_314 : decode cL_law 314 = .ok (.iload_n 3, 1) := by decide +kernel
theorem dL_law_315 : decode cL_law 315 = .ok (.iconst 2, 1) := by decide +kernel
theorem dL_law_316 : decode cL_law 316 = .ok (.iadd, 1) := by decide +kernel
theorem dL_law_317 : decode cL_law 317 = .ok (.iaload, 1) := by decide +kernel
theorem dL_law_318 : decode cL_law 318 = .ok (.invokevirtual 40, 3) := by decide +kernel
theorem dL_law_321 : decode cL_law 321 = .ok (.if_icmp .eq 447, 3) := by decide +kernel
theorem dL_law_324 : decode cL_law 324 = .ok (.iconst 0, 1) := by decide +kernel
theorem dL_law_325 : decode cL_law 325 = .ok (.ireturn, 1) := by decide +kernel
theorem dL_law_326 : decode cL_law 326 = .ok (.aload_n 1, 1) := by decide +kernel
theorem dL_law_327 : decode cL_law 327 = .ok (.aload_n 0, 1) := by decide +kernel
theorem dL_law_328 : decode cL_law 328 = .ok (.iload_n 3, 1) := by decide +kernel
theorem dL_law_329 : decode cL_law 329 = .ok (.iconst 1, 1) := by decide +kernel
theorem dL_law_330 : decode cL_law 330 = .ok (.iadd, 1) := by decide +kernel
theorem dL_law_331 : decode cL_law 331 = .ok (.iaload, 1) := by decide +kernel
theorem dL_law_332 : decode cL_law 332 = .ok (.invokevirtual 41, 3) := by decide +kernel
theorem dL_law_335 : decode cL_law 335 = .ok (.aload_n 2, 1) := by decide +kernel
theorem dL_law_336 : decode cL_law 336 = .ok (.aload_n 0, 1) := by decide +kernel
theorem dL_law_337 : decode cL_law 337 = .ok (.iload_n 3, 1) := by decide +kernel
theorem dL_law_338 : decode cL_law 338 = .ok (.iconst 1, 1) := by decide +kernel
theorem dL_law_339 : decode cL_law 339 = .ok (.iadd, 1) := by decide +kernel
theorem dL_law_340 : decode cL_law 340 = .ok (.iaload, 1) := by decide +kernel
theorem dL_law_341 : decode cL_law 341 = .ok (.invokevirtual 44, 3) := by decide +kernel
theorem dL_law_344 : decode cL_law 344 = .ok (.if_icmp .eq 424, 3) := by decide +kernel
theorem dL_law_347 : decode cL_law 347 = .ok (.iconst 0, 1) := by decide +kernel
theorem dL_law_348 : decode cL_law 348 = .ok (.ireturn, 1) := by decide +kernel
theorem dL_law_349 : decode cL_law 349 = .ok (.aload_n 1, 1) := by decide +kernel
theorem dL_law_350 : decode cL_law 350 = .ok (.aload_n 0, 1) := by decide +kernel
theorem dL_law_351 : decode cL_law 351 = .ok (.iload_n 3, 1) := by decide +kernel
theorem dL_law_352 : decode cL_law 352 = .ok (.iconst 1, 1) := by decide +kernel
theorem dL_law_353 : decode cL_law 353 = .ok (.iadd, 1) := by decide +kernel
theorem dL_law_354 : decode cL_law 354 = .ok (.iaload, 1) := by decide +kernel
theorem dL_law_355 : decode cL_law 355 = .ok (.invokevirtual 45, 3) := by decide +kernel
theorem dL_law_358 : decode cL_law 358 = .ok (.aload_n 2, 1) := by decide +kernel
theorem dL_law_359 : decode cL_law 359 = .ok (.aload_n 0, 1) := by decide +kernel
theorem dL_law_360 : decode cL_law 360 = .ok (.iload_n 3, 1) := by decide +kernel
theorem dL_law_361 : decode cL_law 361 = .ok (.iconst 1, 1) := by decide +kernel
theorem dL_law_362 : decode cL_law 362 = .ok (.iadd, 1) := by decide +kernel
theorem dL_law_363 : decode cL_law 363 = .ok (.iaload, 1) := by decide +kernel
theorem dL_law_364 : decode cL_law 364 = .ok (.invokevirtual 48, 3) := by decide +kernel
theorem dL_law_367 : decode cL_law 367 = .ok (.if_icmp .eq 401, 3) := by decide +kernel
theorem dL_law_370 : decode cL_law 370 = .ok (.iconst 0, 1) := by decide +kernel
theorem dL_law_371 : decode cL_law 371 = .ok (.ireturn, 1) := by decide +kernel
theorem dL_law_372 : decode cL_law 372 = .ok (.aload_n 1, 1) := by decide +kernel
theorem dL_law_373 : decode cL_law 373 = .ok (.aload_n 0, 1) := by decide +kernel
theorem dL_law_374 : decode cL_law 374 = .ok (.iload_n 3, 1) := by decide +kernel
theorem dL_law_375 : decode cL_law 375 = .ok (.iconst 1, 1) := by decide +kernel
theorem dL_law_376 : decode cL_law 376 = .ok (.iadd, 1) := by decide +kernel
theorem dL_law_377 : decode cL_law 377 = .ok (.iaload, 1) := by decide +kernel
theorem dL_law_378 : decode cL_law 378 = .ok (.aload_n 0, 1) := by decide +kernel
theorem dL_law_379 : decode cL_law 379 = .ok (.iload_n 3, 1) := by decide +kernel
theorem dL_law_380 : decode cL_law 380 = .ok (.iconst 2, 1) := by decide +kernel
theorem dL_law_381 : decode cL_law 381 = .ok (.iadd, 1) := by decide +kernel
theorem dL_law_382 : decode cL_law 382 = .ok (.iaload, 1) := by decide +kernel
theorem dL_law_383 : decode cL_law 383 = .ok (.invokevirtual 49, 3) := by decide +kernel
theorem dL_law_386 : decode cL_law 386 = .ok (.aload_n 2, 1) := by decide +kernel
theorem dL_law_387 : decode cL_law 387 = .ok (.aload_n 0, 1) := by decide +kernel
theorem dL_law_388 : decode cL_law 388 = .ok (.iload_n 3, 1) := by decide +kernel
theorem dL_law_389 : decode cL_law 389 = .ok (.iconst 1, 1) := by decide +kernel
theorem dL_law_390 : decode cL_law 390 = .ok (.iadd, 1) := by decide +kernel
theorem dL_law_391 : decode cL_law 391 = .ok (.iaload, 1) := by decide +kernel
theorem dL_law_392 : decode cL_law 392 = .ok (.aload_n 0, 1) := by decide +kernel
theorem dL_law_393 : decode cL_law 393 = .ok (.iload_n 3, 1) := by decide +kernel
theorem dL_law_394 : decode cL_law 394 = .ok (.iconst 2, 1) := by decide +kernel
theorem dL_law_395 : decode cL_law 395 = .ok (.iadd, 1) := by decide +kernel
theorem dL_law_396 : decode cL_law 396 = .ok (.iaload, 1) := by decide +kernel
theorem dL_law_397 : decode cL_law 397 = .ok (.invokevirtual 53, 3) := by decide +kernel
theorem dL_law_400 : decode cL_law 400 = .ok (.if_icmp .eq 368, 3) := by decide +kernel
theorem dL_law_403 : decode cL_law 403 = .ok (.iconst 0, 1) := by decide +kernel
theorem dL_law_404 : decode cL_law 404 = .ok (.ireturn, 1) := by decide +kernel
theorem dL_law_405 : decode cL_law 405 = .ok (.aload_n 1, 1) := by decide +kernel
theorem dL_law_406 : decode cL_law 406 = .ok (.aload_n 0, 1) := by decide +kernel
theorem dL_law_407 : decode cL_law 407 = .ok (.iload_n 3, 1) := by decide +kernel
theorem dL_law_408 : decode cL_law 408 = .ok (.iconst 1, 1) := by decide +kernel
theorem dL_law_409 : decode cL_law 409 = .ok (.iadd, 1) := by decide +kernel
theorem dL_law_410 : decode cL_law 410 = .ok (.iaload, 1) := by decide +kernel
theorem dL_law_411 : decode cL_law 411 = .ok (.invokevirtual 54, 3) := by decide +kernel
theorem dL_law_414 : decode cL_law 414 = .ok (.aload_n 2, 1) := by decide +kernel
theorem dL_law_415 : decode cL_law 415 = .ok (.aload_n 0, 1) := by decide +kernel
theorem dL_law_416 : decode cL_law 416 = .ok (.iload_n 3, 1) := by decide +kernel
theorem dL_law_417 : decode cL_law 417 = .ok (.iconst 1, 1) := by decide +kernel
theorem dL_law_418 : decode cL_law 418 = .ok (.iadd, 1) := by decide +kernel
theorem dL_law_419 : decode cL_law 419 = .ok (.iaload, 1) := by decide +kernel
theorem dL_law_420 : decode cL_law 420 = .ok (.invokevirtual 57, 3) := by decide +kernel
theorem dL_law_423 : decode cL_law 423 = .ok (.if_icmp .eq 345, 3) := by decide +kernel
theorem dL_law_426 : decode cL_law 426 = .ok (.iconst 0, 1) := by decide +kernel
theorem dL_law_427 : decode cL_law 427 = .ok (.ireturn, 1) := by decide +kernel
theorem dL_law_428 : decode cL_law 428 = .ok (.aload_n 1, 1) := by decide +kernel
theorem dL_law_429 : decode cL_law 429 = .ok (.aload_n 0, 1) := by decide +kernel
theorem dL_law_430 : decode cL_law 430 = .ok (.iload_n 3, 1) := by decide +kernel
theorem dL_law_431 : decode cL_law 431 = .ok (.iconst 1, 1) := by decide +kernel
theorem dL_law_432 : decode cL_law 432 = .ok (.iadd, 1) := by decide +kernel
theorem dL_law_433 : decode cL_law 433 = .ok (.iaload, 1) := by decide +kernel
theorem dL_law_434 : decode cL_law 434 = .ok (.invokevirtual 58, 3) := by decide +kernel
theorem dL_law_437 : decode cL_law 437 = .ok (.aload_n 2, 1) := by decide +kernel
theorem dL_law_438 : decode cL_law 438 = .ok (.aload_n 0, 1) := by decide +kernel
theorem dL_law_439 : decode cL_law 439 = .ok (.iload_n 3, 1) := by decide +kernel
theorem dL_law_440 : decode cL_law 440 = .ok (.iconst 1, 1) := by decide +kernel
theorem dL_law_441 : decode cL_law 441 = .ok (.iadd, 1) := by decide +kernel
theorem dL_law_442 : decode cL_law 442 = .ok (.iaload, 1) := by decide +kernel
theorem dL_law_443 : decode cL_law 443 = .ok (.invokevirtual 61, 3) := by decide +kernel
theorem dL_law_446 : decode cL_law 446 = .ok (.if_icmp .eq 322, 3) := by decide +kernel
theorem dL_law_449 : decode cL_law 449 = .ok (.iconst 0, 1) := by decide +kernel
theorem dL_law_450 : decode cL_law 450 = .ok (.ireturn, 1) := by decide +kernel
theorem dL_law_451 : decode cL_law 451 = .ok (.aload_n 1, 1) := by decide +kernel
theorem dL_law_452 : decode cL_law 452 = .ok (.aload_n 0, 1) := by decide +kernel
theorem dL_law_453 : decode cL_law 453 = .ok (.iload_n 3, 1) := by decide +kernel
theorem dL_law_454 : decode cL_law 454 = .ok (.iconst 1, 1) := by decide +kernel
theorem dL_law_455 : decode cL_law 455 = .ok (.iadd, 1) := by decide +kernel
theorem dL_law_456 : decode cL_law 456 = .ok (.iaload, 1) := by decide +kernel
theorem dL_law_457 : decode cL_law 457 = .ok (.invokevirtual 62, 3) := by decide +kernel
theorem dL_law_460 : decode cL_law 460 = .ok (.aload_n 2, 1) := by decide +kernel
theorem dL_law_461 : decode cL_law 461 = .ok (.aload_n 0, 1) := by decide +kernel
theorem dL_law_462 : decode cL_law 462 = .ok (.iload_n 3, 1) := by decide +kernel
theorem dL_law_463 : decode cL_law 463 = .ok (.iconst 1, 1) := by decide +kernel
theorem dL_law_464 : decode cL_law 464 = .ok (.iadd, 1) := by decide +kernel
theorem dL_law_465 : decode cL_law 465 = .ok (.iaload, 1) := by decide +kernel
theorem dL_law_466 : decode cL_law 466 = .ok (.invokevirtual 65, 3) := by decide +kernel
theorem dL_law_469 : decode cL_law 469 = .ok (.if_icmp .eq 299, 3) := by decide +kernel
theorem dL_law_472 : decode cL_law 472 = .ok (.iconst 0, 1) := by decide +kernel
theorem dL_law_473 : decode cL_law 473 = .ok (.ireturn, 1) := by decide +kernel
theorem dL_law_474 : decode cL_law 474 = .ok (.aload_n 1, 1) := by decide +kernel
theorem dL_law_475 : decode cL_law 475 = .ok (.aload_n 0, 1) := by decide +kernel
theorem dL_law_476 : decode cL_law 476 = .ok (.iload_n 3, 1) := by decide +kernel
theorem dL_law_477 : decode cL_law 477 = .ok (.iconst 1, 1) := by decide +kernel
theorem dL_law_478 : decode cL_law 478 = .ok (.iadd, 1) := by decide +kernel
theorem dL_law_479 : decode cL_law 479 = .ok (.iaload, 1) := by decide +kernel
theorem dL_law_480 : decode cL_law 480 = .ok (.aload_n 0, 1) := by decide +kernel
theorem dL_law_481 : decode cL_law 481 = .ok (.iload_n 3, 1) := by decide +kernel
theorem dL_law_482 : decode cL_law 482 = .ok (.iconst 2, 1) := by decide +kernel
theorem dL_law_483 : decode cL_law 483 = .ok (.iadd, 1) := by decide +kernel
theorem dL_law_484 : decode cL_law 484 = .ok (.iaload, 1) := by decide +kernel
theorem dL_law_485 : decode cL_law 485 = .ok (.aload_n 0, 1) := by decide +kernel
theorem dL_law_486 : decode cL_law 486 = .ok (.iload_n 3, 1) := by decide +kernel
theorem dL_law_487 : decode cL_law 487 = .ok (.iconst 3, 1) := by decide +kernel
theorem dL_law_488 : decode cL_law 488 = .ok (.iadd, 1) := by decide +kernel
theorem dL_law_489 : decode cL_law 489 = .ok (.iaload, 1) := by decide +kernel
theorem dL_law_490 : decode cL_law 490 = .ok (.invokevirtual 66, 3) := by decide +kernel
theorem dL_law_493 : decode cL_law 493 = .ok (.aload_n 2, 1) := by decide +kernel
theorem dL_law_494 : decode cL_law 494 = .ok (.aload_n 0, 1) := by decide +kernel
theorem dL_law_495 : decode cL_law 495 = .ok (.iload_n 3, 1) := by decide +kernel
theorem dL_law_496 : decode cL_law 496 = .ok (.iconst 1, 1) := by decide +kernel
theorem dL_law_497 : decode cL_law 497 = .ok (.iadd, 1) := by decide +kernel
theorem dL_law_498 : decode cL_law 498 = .ok (.iaload, 1) := by decide +kernel
theorem dL_law_499 : decode cL_law 499 = .ok (.aload_n 0, 1) := by decide +kernel
theorem dL_law_500 : decode cL_law 500 = .ok (.iload_n 3, 1) := by decide +kernel
theorem dL_law_501 : decode cL_law 501 = .ok (.iconst 2, 1) := by decide +kernel
theorem dL_law_502 : decode cL_law 502 = .ok (.iadd, 1) := by decide +kernel
theorem dL_law_503 : decode cL_law 503 = .ok (.iaload, 1) := by decide +kernel
theorem dL_law_504 : decode cL_law 504 = .ok (.aload_n 0, 1) := by decide +kernel
theorem dL_law_505 : decode cL_law 505 = .ok (.iload_n 3, 1) := by decide +kernel
theorem dL_law_506 : decode cL_law 506 = .ok (.iconst 3, 1) := by decide +kernel
theorem dL_law_507 : decode cL_law 507 = .ok (.iadd, 1) := by decide +kernel
theorem dL_law_508 : decode cL_law 508 = .ok (.iaload, 1) := by decide +kernel
theorem dL_law_509 : decode cL_law 509 = .ok (.invokevirtual 70, 3) := by decide +kernel
theorem dL_law_512 : decode cL_law 512 = .ok (.if_icmp .eq 256, 3) := by decide +kernel
theorem dL_law_515 : decode cL_law 515 = .ok (.iconst 0, 1) := by decide +kernel
theorem dL_law_516 : decode cL_law 516 = .ok (.ireturn, 1) := by decide +kernel
theorem dL_law_517 : decode cL_law 517 = .ok (.aload_n 1, 1) := by decide +kernel
theorem dL_law_518 : decode cL_law 518 = .ok (.aload_n 0, 1) := by decide +kernel
theorem dL_law_519 : decode cL_law 519 = .ok (.iload_n 3, 1) := by decide +kernel
theorem dL_law_520 : decode cL_law 520 = .ok (.iconst 1, 1) := by decide +kernel
theorem dL_law_521 : decode cL_law 521 = .ok (.iadd, 1) := by decide +kernel
theorem dL_law_522 : decode cL_law 522 = .ok (.iaload, 1) := by decide +kernel
theorem dL_law_523 : decode cL_law 523 = .ok (.invokevirtual 71, 3) := by decide +kernel
theorem dL_law_526 : decode cL_law 526 = .ok (.aload_n 2, 1) := by decide +kernel
theorem dL_law_527 : decode cL_law 527 = .ok (.aload_n 0, 1) := by decide +kernel
theorem dL_law_528 : decode cL_law 528 = .ok (.iload_n 3, 1) := by decide +kernel
theorem dL_law_529 : decode cL_law 529 = .ok (.iconst 1, 1) := by decide +kernel
theorem dL_law_530 : decode cL_law 530 = .ok (.iadd, 1) := by decide +kernel
theorem dL_law_531 : decode cL_law 531 = .ok (.iaload, 1) := by decide +kernel
theorem dL_law_532 : decode cL_law 532 = .ok (.invokevirtual 74, 3) := by decide +kernel
theorem dL_law_535 : decode cL_law 535 = .ok (.if_icmp .eq 233, 3) := by decide +kernel
theorem dL_law_538 : decode cL_law 538 = .ok (.iconst 0, 1) := by decide +kernel
theorem dL_law_539 : decode cL_law 539 = .ok (.ireturn, 1) := by decide +kernel
theorem dL_law_540 : decode cL_law 540 = .ok (.aload_n 1, 1) := by decide +kernel
theorem dL_law_541 : decode cL_law 541 = .ok (.aload_n 0, 1) := by decide +kernel
theorem dL_law_542 : decode cL_law 542 = .ok (.iload_n 3, 1) := by decide +kernel
theorem dL_law_543 : decode cL_law 543 = .ok (.iconst 1, 1) := by decide +kernel
theorem dL_law_544 : decode cL_law 544 = .ok (.iadd, 1) := by decide +kernel
theorem dL_law_545 : decode cL_law 545 = .ok (.iaload, 1) := by decide +kernel
theorem dL_law_546 : decode cL_law 546 = .ok (.aload_n 0, 1) := by decide +kernel
theorem dL_law_547 : decode cL_law 547 = .ok (.iload_n 3, 1) := by decide +kernel
theorem dL_law_548 : decode cL_law 548 = .ok (.iconst 2, 1) := by decide +kernel
theorem dL_law_549 : decode cL_law 549 = .ok (.iadd, 1) := by decide +kernel
theorem dL_law_550 : decode cL_law 550 = .ok (.iaload, 1) := by decide +kernel
theorem dL_law_551 : decode cL_law 551 = .ok (.invokevirtual 75, 3) := by decide +kernel
theorem dL_law_554 : decode cL_law 554 = .ok (.aload_n 2, 1) := by decide +kernel
theorem dL_law_555 : decode cL_law 555 = .ok (.aload_n 0, 1) := by decide +kernel
theorem dL_law_556 : decode cL_law 556 = .ok (.iload_n 3, 1) := by decide +kernel
theorem dL_law_557 : decode cL_law 557 = .ok (.iconst 1, 1) := by decide +kernel
theorem dL_law_558 : decode cL_law 558 = .ok (.iadd, 1) := by decide +kernel
theorem dL_law_559 : decode cL_law 559 = .ok (.iaload, 1) := by decide +kernel
theorem dL_law_560 : decode cL_law 560 = .ok (.aload_n 0, 1) := by decide +kernel
theorem dL_law_561 : decode cL_law 561 = .ok (.iload_n 3, 1) := by decide +kernel
theorem dL_law_562 : decode cL_law 562 = .ok (.iconst 2, 1) := by decide +kernel
theorem dL_law_563 : decode cL_law 563 = .ok (.iadd, 1) := by decide +kernel
theorem dL_law_564 : decode cL_law 564 = .ok (.iaload, 1) := by decide +kernel
theorem dL_law_565 : decode cL_law 565 = .ok (.invokevirtual 78, 3) := by decide +kernel
theorem dL_law_568 : decode cL_law 568 = .ok (.if_icmp .eq 200, 3) := by decide +kernel
theorem dL_law_571 : decode cL_law 571 = .ok (.iconst 0, 1) := by decide +kernel
theorem dL_law_572 : decode cL_law 572 = .ok (.ireturn, 1) := by decide +kernel
theorem dL_law_573 : decode cL_law 573 = .ok (.aload_n 1, 1) := by decide +kernel
theorem dL_law_574 : decode cL_law 574 = .ok (.invokevirtual 79, 3) := by decide +kernel
theorem dL_law_577 : decode cL_law 577 = .ok (.aload_n 2, 1) := by decide +kernel
theorem dL_law_578 : decode cL_law 578 = .ok (.invokevirtual 83, 3) := by decide +kernel
theorem dL_law_581 : decode cL_law 581 = .ok (.if_icmp .eq 187, 3) := by decide +kernel
theorem dL_law_584 : decode cL_law 584 = .ok (.iconst 0, 1) := by decide +kernel
theorem dL_law_585 : decode cL_law 585 = .ok (.ireturn, 1) := by decide +kernel
theorem dL_law_586 : decode cL_law 586 = .ok (.aload_n 1, 1) := by decide +kernel
theorem dL_law_587 : decode cL_law 587 = .ok (.aload_n 0, 1) := by decide +kernel
theorem dL_law_588 : decode cL_law 588 = .ok (.iload_n 3, 1) := by decide +kernel
theorem dL_law_589 : decode cL_law 589 = .ok (.iconst 1, 1) := by decide +kernel
theorem dL_law_590 : decode cL_law 590 = .ok (.iadd, 1) := by decide +kernel
theorem dL_law_591 : decode cL_law 591 = .ok (.iaload, 1) := by decide +kernel
theorem dL_law_592 : decode cL_law 592 = .ok (.invokevirtual 84, 3) := by decide +kernel
theorem dL_law_595 : decode cL_law 595 = .ok (.aload_n 2, 1) := by decide +kernel
theorem dL_law_596 : decode cL_law 596 = .ok (.aload_n 0, 1) := by decide +kernel
theorem dL_law_597 : decode cL_law 597 = .ok (.iload_n 3, 1) := by decide +kernel
theorem dL_law_598 : decode cL_law 598 = .ok (.iconst 1, 1) := by decide +kernel
theorem dL_law_599 : decode cL_law 599 = .ok (.iadd, 1) := by decide +kernel
theorem dL_law_600 : decode cL_law 600 = .ok (.iaload, 1) := by decide +kernel
theorem dL_law_601 : decode cL_law 601 = .ok (.invokevirtual 87, 3) := by decide +kernel
theorem dL_law_604 : decode cL_law 604 = .ok (.if_icmp .eq 164, 3) := by decide +kernel
theorem dL_law_607 : decode cL_law 607 = .ok (.iconst 0, 1) := by decide +kernel
theorem dL_law_608 : decode cL_law 608 = .ok (.ireturn, 1) := by decide +kernel
theorem dL_law_609 : decode cL_law 609 = .ok (.aload_n 1, 1) := by decide +kernel
theorem dL_law_610 : decode cL_law 610 = .ok (.aload_n 0, 1) := by decide +kernel
theorem dL_law_611 : decode cL_law 611 = .ok (.iload_n 3, 1) := by decide +kernel
theorem dL_law_612 : decode cL_law 612 = .ok (.iconst 1, 1) := by decide +kernel
theorem dL_law_613 : decode cL_law 613 = .ok (.iadd, 1) := by decide +kernel
theorem dL_law_614 : decode cL_law 614 = .ok (.iaload, 1) := by decide +kernel
theorem dL_law_615 : decode cL_law 615 = .ok (.aload_n 0, 1) := by decide +kernel
theorem dL_law_616 : decode cL_law 616 = .ok (.iload_n 3, 1) := by decide +kernel
theorem dL_law_617 : decode cL_law 617 = .ok (.iconst 2, 1) := by decide +kernel
theorem dL_law_618 : decode cL_law 618 = .ok (.iadd, 1) := by decide +kernel
theorem dL_law_619 : decode cL_law 619 = .ok (.iaload, 1) := by decide +kernel
theorem dL_law_620 : decode cL_law 620 = .ok (.aload_n 0, 1) := by decide +kernel
theorem dL_law_621 : decode cL_law 621 = .ok (.iload_n 3, 1) := by decide +kernel
theorem dL_law_622 : decode cL_law 622 = .ok (.iconst 3, 1) := by decide +kernel
theorem dL_law_623 : decode cL_law 623 = .ok (.iadd, 1) := by decide +kernel
theorem dL_law_624 : decode cL_law 624 = .ok (.iaload, 1) := by decide +kernel
theorem dL_law_625 : decode cL_law 625 = .ok (.aload_n 0, 1) := by decide +kernel
theorem dL_law_626 : decode cL_law 626 = .ok (.iload_n 3, 1) := by decide +kernel
theorem dL_law_627 : decode cL_law 627 = .ok (.iconst 4, 1) := by decide +kernel
theorem dL_law_628 : decode cL_law 628 = .ok (.iadd, 1) := by decide +kernel
theorem dL_law_629 : decode cL_law 629 = .ok (.iaload, 1) := by decide +kernel
theorem dL_law_630 : decode cL_law 630 = .ok (.aload_n 0, 1) := by decide +kernel
theorem dL_law_631 : decode cL_law 631 = .ok (.iload_n 3, 1) := by decide +kernel
theorem dL_law_632 : decode cL_law 632 = .ok (.iconst 5, 1) := by decide +kernel
theorem dL_law_633 : decode cL_law 633 = .ok (.iadd, 1) := by decide +kernel
theorem dL_law_634 : decode cL_law 634 = .ok (.iaload, 1) := by decide +kernel
theorem dL_law_635 : decode cL_law 635 = .ok (.invokevirtual 88, 3) := by decide +kernel
theorem dL_law_638 : decode cL_law 638 = .ok (.aload_n 2, 1) := by decide +kernel
theorem dL_law_639 : decode cL_law 639 = .ok (.aload_n 0, 1) := by decide +kernel
theorem dL_law_640 : decode cL_law 640 = .ok (.iload_n 3, 1) := by decide +kernel
theorem dL_law_641 : decode cL_law 641 = .ok (.iconst 1, 1) := by decide +kernel
theorem dL_law_642 : decode cL_law 642 = .ok (.iadd, 1) := by decide +kernel
theorem dL_law_643 : decode cL_law 643 = .ok (.iaload, 1) := by decide +kernel
theorem dL_law_644 : decode cL_law 644 = .ok (.aload_n 0, 1) := by decide +kernel
theorem dL_law_645 : decode cL_law 645 = .ok (.iload_n 3, 1) := by decide +kernel
theorem dL_law_646 : decode cL_law 646 = .ok (.iconst 2, 1) := by decide +kernel
theorem dL_law_647 : decode cL_law 647 = .ok (.iadd, 1) := by decide +kernel
theorem dL_law_648 : decode cL_law 648 = .ok (.iaload, 1) := by decide +kernel
theorem dL_law_649 : decode cL_law 649 = .ok (.aload_n 0, 1) := by decide +kernel
theorem dL_law_650 : decode cL_law 650 = .ok (.iload_n 3, 1) := by decide +kernel
theorem dL_law_651 : decode cL_law 651 = .ok (.iconst 3, 1) := by decide +kernel
theorem dL_law_652 : decode cL_law 652 = .ok (.iadd, 1) := by decide +kernel
theorem dL_law_653 : decode cL_law 653 = .ok (.iaload, 1) := by decide +kernel
theorem dL_law_654 : decode cL_law 654 = .ok (.aload_n 0, 1) := by decide +kernel
theorem dL_law_655 : decode cL_law 655 = .ok (.iload_n 3, 1) := by decide +kernel
theorem dL_law_656 : decode cL_law 656 = .ok (.iconst 4, 1) := by decide +kernel
theorem dL_law_657 : decode cL_law 657 = .ok (.iadd, 1) := by decide +kernel
theorem dL_law_658 : decode cL_law 658 = .ok (.iaload, 1) := by decide +kernel
theorem dL_law_659 : decode cL_law 659 = .ok (.aload_n 0, 1) := by decide +kernel
theorem dL_law_660 : decode cL_law 660 = .ok (.iload_n 3, 1) := by decide +kernel
theorem dL_law_661 : decode cL_law 661 = .ok (.iconst 5, 1) := by decide +kernel
theorem dL_law_662 : decode cL_law 662 = .ok (.iadd, 1) := by decide +kernel
theorem dL_law_663 : decode cL_law 663 = .ok (.iaload, 1) := by decide +kernel
theorem dL_law_664 : decode cL_law 664 = .ok (.invokevirtual 92, 3) := by decide +kernel
theorem dL_law_667 : decode cL_law 667 = .ok (.if_icmp .eq 101, 3) := by decide +kernel
theorem dL_law_670 : decode cL_law 670 = .ok (.iconst 0, 1) := by decide +kernel
theorem dL_law_671 : decode cL_law 671 = .ok (.ireturn, 1) := by decide +kernel
theorem dL_law_672 : decode cL_law 672 = .ok (.aload_n 1, 1) := by decide +kernel
theorem dL_law_673 : decode cL_law 673 = .ok (.aload_n 0, 1) := by decide +kernel
theorem dL_law_674 : decode cL_law 674 = .ok (.iload_n 3, 1) := by decide +kernel
theorem dL_law_675 : decode cL_law 675 = .ok (.iconst 1, 1) := by decide +kernel
theorem dL_law_676 : decode cL_law 676 = .ok (.iadd, 1) := by decide +kernel
theorem dL_law_677 : decode cL_law 677 = .ok (.iaload, 1) := by decide +kernel
theorem dL_law_678 : decode cL_law 678 = .ok (.aload_n 0, 1) := by decide +kernel
theorem dL_law_679 : decode cL_law 679 = .ok (.iload_n 3, 1) := by decide +kernel
theorem dL_law_680 : decode cL_law 680 = .ok (.iconst 2, 1) := by decide +kernel
theorem dL_law_681 : decode cL_law 681 = .ok (.iadd, 1) := by decide +kernel
theorem dL_law_682 : decode cL_law 682 = .ok (.iaload, 1) := by decide +kernel
theorem dL_law_683 : decode cL_law 683 = .ok (.aload_n 0, 1) := by decide +kernel
theorem dL_law_684 : decode cL_law 684 = .ok (.iload_n 3, 1) := by decide +kernel
theorem dL_law_685 : decode cL_law 685 = .ok (.iconst 3, 1) := by decide +kernel
theorem dL_law_686 : decode cL_law 686 = .ok (.iadd, 1) := by decide +kernel
theorem dL_law_687 : decode cL_law 687 = .ok (.iaload, 1) := by decide +kernel
theorem dL_law_688 : decode cL_law 688 = .ok (.invokevirtual 93, 3) := by decide +kernel
theorem dL_law_691 : decode cL_law 691 = .ok (.aload_n 2, 1) := by decide +kernel
theorem dL_law_692 : decode cL_law 692 = .ok (.aload_n 0, 1) := by decide +kernel
theorem dL_law_693 : decode cL_law 693 = .ok (.iload_n 3, 1) := by decide +kernel
theorem dL_law_694 : decode cL_law 694 = .ok (.iconst 1, 1) := by decide +kernel
theorem dL_law_695 : decode cL_law 695 = .ok (.iadd, 1) := by decide +kernel
theorem dL_law_696 : decode cL_law 696 = .ok (.iaload, 1) := by decide +kernel
theorem dL_law_697 : decode cL_law 697 = .ok (.aload_n 0, 1) := by decide +kernel
theorem dL_law_698 : decode cL_law 698 = .ok (.iload_n 3, 1) := by decide +kernel
theorem dL_law_699 : decode cL_law 699 = .ok (.iconst 2, 1) := by decide +kernel
theorem dL_law_700 : decode cL_law 700 = .ok (.iadd, 1) := by decide +kernel
theorem dL_law_701 : decode cL_law 701 = .ok (.iaload, 1) := by decide +kernel
theorem dL_law_702 : decode cL_law 702 = .ok (.aload_n 0, 1) := by decide +kernel
theorem dL_law_703 : decode cL_law 703 = .ok (.iload_n 3, 1) := by decide +kernel
theorem dL_law_704 : decode cL_law 704 = .ok (.iconst 3, 1) := by decide +kernel
theorem dL_law_705 : decode cL_law 705 = .ok (.iadd, 1) := by decide +kernel
theorem dL_law_706 : decode cL_law 706 = .ok (.iaload, 1) := by decide +kernel
theorem dL_law_707 : decode cL_law 707 = .ok (.invokevirtual 96, 3) := by decide +kernel
theorem dL_law_710 : decode cL_law 710 = .ok (.if_icmp .eq 58, 3) := by decide +kernel
theorem dL_law_713 : decode cL_law 713 = .ok (.iconst 0, 1) := by decide +kernel
theorem dL_law_714 : decode cL_law 714 = .ok (.ireturn, 1) := by decide +kernel
theorem dL_law_715 : decode cL_law 715 = .ok (.aload_n 1, 1) := by decide +kernel
theorem dL_law_716 : decode cL_law 716 = .ok (.aload_n 0, 1) := by decide +kernel
theorem dL_law_717 : decode cL_law 717 = .ok (.iload_n 3, 1) := by decide +kernel
theorem dL_law_718 : decode cL_law 718 = .ok (.iconst 1, 1) := by decide +kernel
theorem dL_law_719 : decode cL_law 719 = .ok (.iadd, 1) := by decide +kernel
theorem dL_law_720 : decode cL_law 720 = .ok (.iaload, 1) := by decide +kernel
theorem dL_law_721 : decode cL_law 721 = .ok (.aload_n 0, 1) := by decide +kernel
theorem dL_law_722 : decode cL_law 722 = .ok (.iload_n 3, 1) := by decide +kernel
theorem dL_law_723 : decode cL_law 723 = .ok (.iconst 2, 1) := by decide +kernel
theorem dL_law_724 : decode cL_law 724 = .ok (.iadd, 1) := by decide +kernel
theorem dL_law_725 : decode cL_law 725 = .ok (.iaload, 1) := by decide +kernel
theorem dL_law_726 : decode cL_law 726 = .ok (.aload_n 0, 1) := by decide +kernel
theorem dL_law_727 : decode cL_law 727 = .ok (.iload_n 3, 1) := by decide +kernel
theorem dL_law_728 : decode cL_law 728 = .ok (.iconst 3, 1) := by decide +kernel
theorem dL_law_729 : decode cL_law 729 = .ok (.iadd, 1) := by decide +kernel
theorem dL_law_730 : decode cL_law 730 = .ok (.iaload, 1) := by decide +kernel
theorem dL_law_731 : decode cL_law 731 = .ok (.aload_n 0, 1) := by decide +kernel
theorem dL_law_732 : decode cL_law 732 = .ok (.iload_n 3, 1) := by decide +kernel
theorem dL_law_733 : decode cL_law 733 = .ok (.iconst 4, 1) := by decide +kernel
theorem dL_law_734 : decode cL_law 734 = .ok (.iadd, 1) := by decide +kernel
theorem dL_law_735 : decode cL_law 735 = .ok (.iaload, 1) := by decide +kernel
theorem dL_law_736 : decode cL_law 736 = .ok (.invokevirtual 97, 3) := by decide +kernel
theorem dL_law_739 : decode cL_law 739 = .ok (.aload_n 2, 1) := by decide +kernel
theorem dL_law_740 : decode cL_law 740 = .ok (.aload_n 0, 1) := by decide +kernel
theorem dL_law_741 : decode cL_law 741 = .ok (.iload_n 3, 1) := by decide +kernel
theorem dL_law_742 : decode cL_law 742 = .ok (.iconst 1, 1) := by decide +kernel
theorem dL_law_743 : decode cL_law 743 = .ok (.iadd, 1) := by decide +kernel
theorem dL_law_744 : decode cL_law 744 = .ok (.iaload, 1) := by decide +kernel
theorem dL_law_745 : decode cL_law 745 = .ok (.aload_n 0, 1) := by decide +kernel
theorem dL_law_746 : decode cL_law 746 = .ok (.iload_n 3, 1) := by decide +kernel
theorem dL_law_747 : decode cL_law 747 = .ok (.iconst 2, 1) := by decide +kernel
theorem dL_law_748 : decode cL_law 748 = .ok (.iadd, 1) := by decide +kernel
theorem dL_law_749 : decode cL_law 749 = .ok (.iaload, 1) := by decide +kernel
theorem dL_law_750 : decode cL_law 750 = .ok (.aload_n 0, 1) := by decide +kernel
theorem dL_law_751 : decode cL_law 751 = .ok (.iload_n 3, 1) := by decide +kernel
theorem dL_law_752 : decode cL_law 752 = .ok (.iconst 3, 1) := by decide +kernel
theorem dL_law_753 : decode cL_law 753 = .ok (.iadd, 1) := by decide +kernel
theorem dL_law_754 : decode cL_law 754 = .ok (.iaload, 1) := by decide +kernel
theorem dL_law_755 : decode cL_law 755 = .ok (.aload_n 0, 1) := by decide +kernel
theorem dL_law_756 : decode cL_law 756 = .ok (.iload_n 3, 1) := by decide +kernel
theorem dL_law_757 : decode cL_law 757 = .ok (.iconst 4, 1) := by decide +kernel
theorem dL_law_758 : decode cL_law 758 = .ok (.iadd, 1) := by decide +kernel
theorem dL_law_759 : decode cL_law 759 = .ok (.iaload, 1) := by decide +kernel
theorem dL_law_760 : decode cL_law 760 = .ok (.invokevirtual 100, 3) := by decide +kernel
theorem dL_law_763 : decode cL_law 763 = .ok (.if_icmp .eq 5, 3) := by decide +kernel
theorem dL_law_766 : decode cL_law 766 = .ok (.iconst 0, 1) := by decide +kernel
theorem dL_law_767 : decode cL_law 767 = .ok (.ireturn, 1) := by decide +kernel
theorem dL_law_768 : decode cL_law 768 = .ok (.iinc 3 6, 3) := by decide +kernel
theorem dL_law_771 : decode cL_law 771 = .ok (.goto (-753), 3) := by decide +kernel
theorem dL_law_774 : decode cL_law 774 = .ok (.iconst 1, 1) := by decide +kernel
theorem dL_law_775 : decode cL_law 775 = .ok (.ireturn, 1) := by decide +kernel
end
section
/-! WHAT THE PRINTED FUNCTIONS ARE MADE OF -/
def qlet {α β : Type} (x : α) (f : α → Option β) : Option β := f x
def qopt {α β : Type} (o : Option α) (n : Option β) (f : α → Option β) : Option β := match o with
  | none => n
  | some q => f q
def qx {α β γ : Type} (o : α ⊕ β) (f : α → Option γ) (g : β → Option γ) : Option γ := match o with
  | .inl e => f e
  | .inr r => g r
def qloop {S O : Type} (body : S → Option (S ⊕ O)) : Nat → S → Option O
  | 0, _ => none
  | n + 1, s => (body s).bind fun x => match x with
    | .inl s' => qloop body n s'
    | .inr o => some o
/-- reads and writes of arrays, in their bounds -/
def qin (i : Int32) (n : Nat) : Bool := decide (¬ (i < 0 ∨ n ≤ i.toNatClampNeg))
def qrd (I : qI) (R : qR) (a : Nat) (i : Int32) : Option Int32 := if qin i (R.2.1 a).2 = true then some (I a i.toNatClampNeg) else none
def qra (R : qR) (a : Nat) (i : Int32) : Option Nat := if qin i (R.2.1 a).2 = true then R.1 a i.toNatClampNeg else none
def qwr (I : qI) (R : qR) (a : Nat) (i x : Int32) : Option qI := if qin i (R.2.1 a).2 = true then some (qup I a i.toNatClampNeg x) else none
def qwz (I : qI) (R : qR) (a : Nat) (i x : Int32) : Option qI := if qin i (R.2.1 a).2 = true then some (qup I a i.toNatClampNeg (vp_nar .boolean x)) else none
def qwa (R : qR) (a : Nat) (i : Int32) (r : Nat) : Option qR := if qin i (R.2.1 a).2 = true then some (qpr R a i.toNatClampNeg (some r)) else none
def qcy (I : qI) (R : qR) (a : Nat) (sp : Int32) (b : Nat) (dp x : Int32) : Option qI := if ¬ sp < 0 ∧ ¬ dp < 0 ∧ ¬ x < 0 ∧ sp.toNatClampNeg + x.toNatClampNeg ≤ (R.2.1 a).2 ∧ dp.toNatClampNeg + x.toNatClampNeg ≤ (R.2.1 b).2 then some (qcp I a b sp.toNatClampNeg dp.toNatClampNeg x.toNatClampNeg) else none
def qrv (G : qG) (o : Option Nat) : Value := match o with
  | none => .null
  | some q => .ref (G.1 + q)
theorem qbind {α β : Type} {o : Option α} {f : α → Option β} {r : β} (h : o.bind f = some r) : ∃ x, o = some x ∧ f x = some r := by
  cases o with
  | none => cases h
  | some x => exact ⟨x, rfl, h⟩
theorem qletE {α β : Type} {x : α} {f : α → Option β} {r : β} (h : qlet x f = some r) : ∃ y, y = x ∧ f y = some r := ⟨x, rfl, h⟩
theorem qoptn {α β : Type} {n : Option β} {f : α → Option β} {r : β} (h : qopt none n f = some r) : n = some r := h
theorem qopts {α β : Type} {q : α} {n : Option β} {f : α → Option β} {r : β} (h : qopt (some q) n f = some r) : f q = some r := h
theorem qxl {α β γ : Type} {e : α} {f : α → Option γ} {g : β → Option γ} {r : γ} (h : qx (.inl e) f g = some r) : f e = some r := h
theorem qxr {α β γ : Type} {e : β} {f : α → Option γ} {g : β → Option γ} {r : γ} (h : qx (.inr e) f g = some r) : g e = some r := h
theorem qite {α : Type} {c : Prop} {dc : Decidable c} {a r : α} (h : (if c then some a else none) = some r) : c ∧ some a = some r := by
  by_cases hc : c
  · rw [if_pos hc] at h; exact ⟨hc, h⟩
  · rw [if_neg hc] at h; cases h
theorem qloop_ind {S O : Type} {body : S → Option (S ⊕ O)} {P : S → Prop} {o : O} (h : ∀ s x, body s = some x → (∀ s', x = .inl s' → P s') → (∀ o', x = .inr o' → o' = o) → P s) : ∀ n s, qloop body n s = some o → P s := by
  intro n
  induction n with
  | zero => intro s hs; cases hs
  | succ n ih =>
    intro s hs
    obtain ⟨x, e, hs⟩ := qbind hs
    refine h s x e (fun s' hx => ?_) (fun o' hx => ?_)
    · subst hx; exact ih s' hs
    · subst hx; exact Option.some.inj hs
/-- total: an invariant and a measure that falls -/
theorem qloop_spec {S O : Type} {body : S → Option (S ⊕ O)} (Inv : S → Prop) (mu : S → Nat) (Post : O → Prop) (h : ∀ s, Inv s → (∃ s', body s = some (.inl s') ∧ Inv s' ∧ mu s' < mu s) ∨ (∃ o, body s = some (.inr o) ∧ Post o)) : ∀ n s, Inv s → mu s < n → ∃ o, qloop body n s = some o ∧ Post o := by
  intro n
  induction n with
  | zero => intro s _ hm; exact absurd hm (Nat.not_lt_zero _)
  | succ n ih =>
    intro s hi hm
    rcases h s hi with ⟨s', e, hi', hm'⟩ | ⟨o, e, hp⟩
    · obtain ⟨o, e2, hp⟩ := ih s' hi' (by omega)
      exact ⟨o, by simp [qloop, e, e2], hp⟩
    · exact ⟨o, by simp [qloop, e], hp⟩
theorem qin_iff {i : Int32} {n : Nat} : qin i n = true ↔ vp_in i n := by simp [qin, vp_in]
theorem qrd_some {I : qI} {R : qR} {a : Nat} {i x : Int32} (h : qrd I R a i = some x) : vp_in i (R.2.1 a).2 ∧ I a i.toNatClampNeg = x := by
  unfold qrd at h
  split at h
  next hc => exact ⟨qin_iff.mp hc, Option.some.inj h⟩
  next => cases h
theorem qra_some {R : qR} {a r : Nat} {i : Int32} (h : qra R a i = some r) : vp_in i (R.2.1 a).2 ∧ R.1 a i.toNatClampNeg = some r := by
  unfold qra at h
  split at h
  next hc => exact ⟨qin_iff.mp hc, h⟩
  next => cases h
theorem qwr_some {I I2 : qI} {R : qR} {a : Nat} {i x : Int32} (h : qwr I R a i x = some I2) : vp_in i (R.2.1 a).2 ∧ qup I a i.toNatClampNeg x = I2 := by
  unfold qwr at h
  split at h
  next hc => exact ⟨qin_iff.mp hc, Option.some.inj h⟩
  next => cases h
theorem qwz_some {I I2 : qI} {R : qR} {a : Nat} {i x : Int32} (h : qwz I R a i x = some I2) : vp_in i (R.2.1 a).2 ∧ qup I a i.toNatClampNeg (vp_nar .boolean x) = I2 := by
  unfold qwz at h
  split at h
  next hc => exact ⟨qin_iff.mp hc, Option.some.inj h⟩
  next => cases h
theorem qwa_some {R R2 : qR} {a r : Nat} {i : Int32} (h : qwa R a i r = some R2) : vp_in i (R.2.1 a).2 ∧ qpr R a i.toNatClampNeg (some r) = R2 := by
  unfold qwa at h
  split at h
  next hc => exact ⟨qin_iff.mp hc, Option.some.inj h⟩
  next => cases h
theorem qnar {x : Int32} (h : vp_nar .boolean x = x) : narrow .boolean (.int x) = .int x := by
  have e : narrow .boolean (.int x) = .int (vp_nar .boolean x) := rfl
  rw [e, h]
theorem qtout (x : Int32) (hi : Nat) (h : ∀ j : Nat, j ≤ hi → ¬ x = Int32.ofInt j) : x.toInt < 0 ∨ (hi : Int) < x.toInt := by
  by_cases h0 : x.toInt < 0
  · exact Or.inl h0
  · refine Or.inr ?_
    by_cases h1 : (hi : Int) < x.toInt
    · exact h1
    · exfalso
      refine h x.toInt.toNat (by omega) ?_
      rw [Int.toNat_of_nonneg (by omega)]
      exact (Int32.ofInt_toInt x).symm
theorem qWT.elem {R : qR} (h : qWT R) {a r : Nat} {i : Int32} (ha : qok R a 11) (hp : qra R a i = some r) : qok R r 5 := h.get ha (qra_some hp).2 rfl
section AWX
variable {Z : qZ} {pc : Nat} {lv : List (Nat × Value)} {st rest st0 : List Value} {I : qI} {R : qR} {v1 : Option Value} {I1 : qI} {R1 : qR} {M : qM} {d : Nat} {As : List Value}
theorem aw_aloadN {i : Nat} (hd : decode (zc Z) pc = .ok (.aload i, 2)) (q : Nat) (hl : lv[q]? = some (i, .null)) (h : AW Z (pc + 2) lv (.null :: st) I R) : AW Z pc lv st I R :=
  fun p e s m below meth c H locs ls C hR hS hv => lv_aloadN C.1 C.2.1 hd (lv_at hv q hl) (h p e s m below meth c H locs ls C hR hS hv)
theorem aw_astoreN {i : Nat} {lv' : List (Nat × Value)} (hd : decode (zc Z) pc = .ok (.astore i, 2)) (hn : i < zn Z) (hl : (i, Value.null) :: lv.filter (fun q => !(q.1 == i) && !(q.1 + 1 == i && q.2.category == 2)) = lv') (h : AW Z (pc + 2) lv' st I R) : AW Z pc lv (.null :: st) I R :=
  fun p e s m below meth c H locs ls C hR hS hv => lv_astoreN C.1 C.2.1 hd hv hn hl (fun ls hv => h p e s m below meth c H locs ls C hR hS hv)
theorem aw_ialdq {a : Nat} {i x : Int32} (ha : qok R a 9) (he : qrd I R a i = some x) (hd : decode (zc Z) pc = .ok (.iaload, 1)) (h : AW Z (pc + 1) lv (.int x :: st) I R) : AW Z pc lv (.int i :: .ref ((zG Z).1 + a) :: st) I R :=
  aw_iald ha (qrd_some he).1 hd (by rw [(qrd_some he).2]; exact h)
theorem aw_zaldq {a : Nat} {i x : Int32} (ha : qok R a 10) (he : qrd I R a i = some x) (hd : decode (zc Z) pc = .ok (.baload, 1)) (h : AW Z (pc + 1) lv (.int x :: st) I R) : AW Z pc lv (.int i :: .ref ((zG Z).1 + a) :: st) I R :=
  aw_zald ha (qrd_some he).1 hd (by rw [(qrd_some he).2]; exact h)
theorem aw_aaldq {a r : Nat} {i : Int32} (ha : qok R a 11) (he : qra R a i = some r) (hd : decode (zc Z) pc = .ok (.aaload, 1)) (h : AW Z (pc + 1) lv (.ref ((zG Z).1 + r) :: st) I R) : AW Z pc lv (.int i :: .ref ((zG Z).1 + a) :: st) I R :=
  aw_aald ha (qra_some he).1 (qra_some he).2 hd h
theorem aw_iastq {a : Nat} {i x : Int32} {I2 : qI} (ha : qok R a 9) (he : qwr I R a i x = some I2) (hd : decode (zc Z) pc = .ok (.iastore, 1)) (h : AW Z (pc + 1) lv st I2 R) : AW Z pc lv (.int x :: .int i :: .ref ((zG Z).1 + a) :: st) I R :=
  aw_iast ha (qwr_some he).1 hd (by rw [(qwr_some he).2]; exact h)
theorem aw_zastq {a : Nat} {i x : Int32} {I2 : qI} (ha : qok R a 10) (he : qwz I R a i x = some I2) (hd : decode (zc Z) pc = .ok (.bastore, 1)) (h : AW Z (pc + 1) lv st I2 R) : AW Z pc lv (.int x :: .int i :: .ref ((zG Z).1 + a) :: st) I R :=
  aw_zast ha (qwz_some he).1 hd (by rw [(qwz_some he).2]; exact h)
theorem aw_aastq {a r : Nat} {i : Int32} {R2 : qR} (ha : qok R a 11) (he : qwa R a i r = some R2) (hr : qok R r 5) (hd : decode (zc Z) pc = .ok (.aastore, 1)) (h : AW Z (pc + 1) lv st I R2) : AW Z pc lv (.ref ((zG Z).1 + r) :: .int i :: .ref ((zG Z).1 + a) :: st) I R :=
  aw_aast ha (qwa_some he).1 hr hd (by rw [(qwa_some he).2]; exact h)
theorem aw_putiq {own : String} {index ci j a : Nat} {v : Int32} {I2 : qI} (hf : qFL own index ci j) (hc : ci < 9) (hg : ∀ v i p, qflds ci (upd i j v) p = (qflds ci i p).set j (.int v)) (hl : ∀ i p, j < (qflds ci i p).length) (hfin : ∀ C T N, vwCl[ci]? = some (C, T, N) → (T j).2.2.2 = false ∧ parseFieldDescriptor (T j).2.2.1 = some .int) (ha : qok R a ci) (he : I2 = qup I a j v) (ho : (zM Z).1.cls = own) (hd : decode (zc Z) pc = .ok (.putfield index, 3)) (h : AW Z (pc + 3) lv st I2 R) : AW Z pc lv (.int v :: .ref ((zG Z).1 + a) :: st) I R :=
  aw_puti hf hc (hg v) hl hfin ha ho hd (by rw [← he]; exact h)
theorem aw_copyq {own : String} {index a b : Nat} {sp dp x : Int32} {I2 : qI} (h1 : Cond.methodLink own index arraycopyName ∈ wW) (ho : (zM Z).1.cls = own) (ha : qok R a 9) (hb : qok R b 9) (he : qcy I R a sp b dp x = some I2) (hs : (st.map fun v => v.category).sum ≤ 8) (hf : 1 ≤ (zR Z).frames) (hlo : 64 ≤ (zR Z).locals) (hd : decode (zc Z) pc = .ok (.invokestatic index, 3))
    (h : AW Z (pc + 3) lv st I2 R) : AW Z pc lv (.int x :: .int dp :: .ref ((zG Z).1 + b) :: .int sp :: .ref ((zG Z).1 + a) :: st) I R := by
  unfold qcy at he
  split at he
  next hc => exact aw_copy h1 cx_cpn cx_cps cx_sys ho ha hb hc.1 hc.2.1 hc.2.2.1 hc.2.2.2.1 hc.2.2.2.2 hs hf hlo hd (by rw [Option.some.inj he]; exact h)
  next => cases he
theorem aw_tableEq {dflt hi : Int} {offs : Array Int} {len : Nat} {x v : Int32} {off : Int} {tgt : Nat} (hd : decode (zc Z) pc = .ok (.tableswitch dflt 0 hi offs, len)) (hx : x = v) (h1 : ¬ v.toInt < 0) (h2 : ¬ hi < v.toInt) (ho : offs[(v.toInt - 0).toNat]? = some off) (ht : (pc : Int) + off = (tgt : Int)) (h : AW Z tgt lv st I R) : AW Z pc lv (.int x :: st) I R := by
  subst hx
  exact aw_tableIn hd h1 h2 ho ht h
theorem qroomL {l : Launch} {G : qG} {M0 : qM} {d0 : Nat} {As0 : List Value} {v0 : Option Value} {I0 : qI} (h1 : d + 1 ≤ d0) (h2 : M.2.2.1 ≤ 45) : qroom (Zm l G M0 d0 As0 R v0 I0 R) M d R := by
  refine ⟨h1, ?_, ?_, ?_⟩
  · show 8 + (M.2.2.1 + 11) + 64 * d ≤ 64 * d0
    omega
  · show R.2.2.1 - R.2.2.1 ≤ _
    omega
  · show R.2.2.2 - R.2.2.2 ≤ _
    omega
theorem aw_maxq {l : Launch} {G : qG} {M0 : qM} {d0 : Nat} {As0 : List Value} {v0 : Option Value} {I0 : qI} {own : String} {index : Nat} {x y : Int32} (h1 : Cond.methodLink own index Lib.Math.max.name ∈ wW) (ho : M0.1.cls = own) (hs : (st.map fun v => v.category).sum ≤ 8) (hf : 1 ≤ d0) (hd : decode M0.2.1 pc = .ok (.invokestatic index, 3))
    (h : AW (Zm l G M0 d0 As0 R v0 I0 R) (pc + 3) lv (.int (if x < y then y else x) :: st) I R) : AW (Zm l G M0 d0 As0 R v0 I0 R) pc lv (.int y :: .int x :: st) I R :=
  aw_max h1 cx_max_s cx_math cx_max_c ho hs hf (by show 64 ≤ 64 * d0; omega) (by show R.2.2.1 - R.2.2.1 ≤ _; omega) (by show R.2.2.2 - R.2.2.2 ≤ _; omega) hd h
theorem aw_minq {l : Launch} {G : qG} {M0 : qM} {d0 : Nat} {As0 : List Value} {v0 : Option Value} {I0 : qI} {own : String} {index : Nat} {x y : Int32} (h1 : Cond.methodLink own index Lib.Math.min.name ∈ wW) (ho : M0.1.cls = own) (hs : (st.map fun v => v.category).sum ≤ 8) (hf : 1 ≤ d0) (hd : decode M0.2.1 pc = .ok (.invokestatic index, 3))
    (h : AW (Zm l G M0 d0 As0 R v0 I0 R) (pc + 3) lv (.int (if y < x then y else x) :: st) I R) : AW (Zm l G M0 d0 As0 R v0 I0 R) pc lv (.int y :: .int x :: st) I R :=
  aw_min h1 cx_min_s cx_math cx_min_c ho hs hf (by show 64 ≤ 64 * d0; omega) (by show R.2.2.1 - R.2.2.1 ≤ _; omega) (by show R.2.2.2 - R.2.2.2 ≤ _; omega) hd h
/-- calls by what they answer -/
theorem aw_callVi {own : String} {index n ci a : Nat} {x : Int32} (hM : qMt (zl Z) (zG Z) M d (.ref ((zG Z).1 + a) :: As) I R (some (.int x)) I1 R1) (hC : qCV own index n ci M) (hn : As.length = n) (hr : qroom Z M d R1) (ho : (zM Z).1.cls = own) (ha : qok R a ci) (hs : (rest.map fun v => v.category).sum ≤ 8) (hd : decode (zc Z) pc = .ok (.invokevirtual index, 3)) (hst : st0 = As.reverse ++ .ref ((zG Z).1 + a) :: rest) (h : AW Z (pc + 3) lv (.int x :: rest) I1 R1) : AW Z pc lv st0 I R := aw_callV hM hC hn hr ho ha hs hd hst h
theorem aw_callVr {own : String} {index n ci a : Nat} {x : Value} (hM : qMt (zl Z) (zG Z) M d (.ref ((zG Z).1 + a) :: As) I R (some x) I1 R1) (hC : qCV own index n ci M) (hn : As.length = n) (hr : qroom Z M d R1) (ho : (zM Z).1.cls = own) (ha : qok R a ci) (hs : (rest.map fun v => v.category).sum ≤ 8) (hd : decode (zc Z) pc = .ok (.invokevirtual index, 3)) (hst : st0 = As.reverse ++ .ref ((zG Z).1 + a) :: rest) (h : AW Z (pc + 3) lv (x :: rest) I1 R1) : AW Z pc lv st0 I R := aw_callV hM hC hn hr ho ha hs hd hst h
theorem aw_callVv {own : String} {index n ci a : Nat} (hM : qMt (zl Z) (zG Z) M d (.ref ((zG Z).1 + a) :: As) I R none I1 R1) (hC : qCV own index n ci M) (hn : As.length = n) (hr : qroom Z M d R1) (ho : (zM Z).1.cls = own) (ha : qok R a ci) (hs : (rest.map fun v => v.category).sum ≤ 8) (hd : decode (zc Z) pc = .ok (.invokevirtual index, 3)) (hst : st0 = As.reverse ++ .ref ((zG Z).1 + a) :: rest) (h : AW Z (pc + 3) lv rest I1 R1) : AW Z pc lv st0 I R := aw_callV hM hC hn hr ho ha hs hd hst h
theorem aw_callSi {own : String} {index n : Nat} {x : Int32} (hM : qMt (zl Z) (zG Z) M d As I R (some (.int x)) I1 R1) (hC : qCS own index n M) (hn : As.length = n) (hr : qroom Z M d R1) (ho : (zM Z).1.cls = own) (hs : (rest.map fun v => v.category).sum ≤ 8) (hd : decode (zc Z) pc = .ok (.invokestatic index, 3)) (hst : st0 = As.reverse ++ rest) (h : AW Z (pc + 3) lv (.int x :: rest) I1 R1) : AW Z pc lv st0 I R := aw_callS hM hC hn hr ho hs hd hst h
theorem aw_callSv {own : String} {index n : Nat} (hM : qMt (zl Z) (zG Z) M d As I R none I1 R1) (hC : qCS own index n M) (hn : As.length = n) (hr : qroom Z M d R1) (ho : (zM Z).1.cls = own) (hs : (rest.map fun v => v.category).sum ≤ 8) (hd : decode (zc Z) pc = .ok (.invokestatic index, 3)) (hst : st0 = As.reverse ++ rest) (h : AW Z (pc + 3) lv rest I1 R1) : AW Z pc lv st0 I R := aw_callS hM hC hn hr ho hs hd hst h
end AWX
end
section
def fX5_takes (R : qR) (I : qI) (a0 : Nat) (p1 : Int32) (p2 : Int32) (p3 : Int32) : Option (Int32) :=
  if (7 : Int32) ≤ (I a0 1) then
    (some (0 : Int32))
  else
    ((R.1 a0 5).bind fun r2 =>
    (qrd I R r2 p1).bind fun x3 =>
    if x3 = (-1 : Int32) then
      (if p2 < 0 then
        (some (0 : Int32))
      else
        (if p3 < p2 then
          (some (0 : Int32))
        else
          (if p3 < (1440 : Int32) then
            (if (I a0 1) = 0 then
              (some (1 : Int32))
            else
              ((R.1 a0 4).bind fun r9 =>
              (qrd I R r9 ((I a0 1) - (1 : Int32))).bind fun x10 =>
              if p2 ≤ x10 then
                (some (0 : Int32))
              else
                (some (1 : Int32))))
          else
            (some (0 : Int32)))))
    else
      (some (0 : Int32)))
set_option maxHeartbeats 4000000 in
set_option maxRecDepth 100000 in
theorem sX5_takes {l : Launch} {G : qG} {R : qR} {I : qI} {a0 : Nat} {p1 : Int32} {p2 : Int32} {p3 : Int32} {r : Int32} (hW : qWT R) (ha0 : qok R a0 5) (hF : fX5_takes R I a0 p1 p2 p3 = some r) : qMt l G mX5_takes 1 [.ref (G.1 + a0), .int p1, .int p2, .int p3] I R (some (.int r)) I R := by
  unfold fX5_takes at hF
  refine qMt_of (by decide) (Nat.le_of_ble_eq_true rfl) ⟨Nat.le_refl _, Nat.le_refl _⟩ ?_
  show AW _ 0 [(0, .ref (G.1 + a0)), (1, .int p1), (2, .int p2), (3, .int p3)] [] I R
  refine aw_aload_n dX5_takes_0 0 rfl rfl ?_
  refine aw_geti fl_X5_30 (by decide) fg_X5_1 ha0 rfl dX5_takes_1 ?_
  refine aw_bipush (v := (7 : Int32)) dX5_takes_4 (by decide) ?_
  refine aw_icmp_ge (tgt := 19) dX5_takes_6 (by decide) (fun c1 => ?_) (fun c1 => ?_)
  · rw [if_pos c1] at hF
    refine aw_iconst (v := (0 : Int32)) dX5_takes_19 (by decide) ?_
    cases hF
    exact aw_zret rfl (by decide) dX5_takes_20 rfl rfl rfl
  · rw [if_neg c1] at hF
    refine aw_aload_n dX5_takes_9 0 rfl rfl ?_
    obtain ⟨r2, er2, hF⟩ := qbind hF
    have kr2 : qok R r2 9 := hW.get ha0 er2 rfl
    refine aw_getr fl_X5_21 (by decide) fg_X5_5 ha0 er2 rfl dX5_takes_10 ?_
    refine aw_iload_n dX5_takes_13 1 rfl rfl ?_
    obtain ⟨x3, ex3, hF⟩ := qbind hF
    refine aw_ialdq kr2 ex3 dX5_takes_14 ?_
    refine aw_iconst (v := (-1 : Int32)) dX5_takes_15 (by decide) ?_
    refine aw_icmp_eq (tgt := 21) dX5_takes_16 (by decide) (fun c4 => ?_) (fun c4 => ?_)
    · rw [if_pos c4] at hF
      refine aw_iload_n dX5_takes_21 2 rfl rfl ?_
      refine aw_if_lt (tgt := 37) dX5_takes_22 (by decide) (fun c5 => ?_) (fun c5 => ?_)
      · rw [if_pos c5] at hF
        refine aw_iconst (v := (0 : Int32)) dX5_takes_37 (by decide) ?_
        cases hF
        exact aw_zret rfl (by decide) dX5_takes_38 rfl rfl rfl
      · rw [if_neg c5] at hF
        refine aw_iload_n dX5_takes_25 3 rfl rfl ?_
        refine aw_iload_n dX5_takes_26 2 rfl rfl ?_
        refine aw_icmp_lt (tgt := 37) dX5_takes_27 (by decide) (fun c6 => ?_) (fun c6 => ?_)
        · rw [if_pos c6] at hF
          refine aw_iconst (v := (0 : Int32)) dX5_takes_37 (by decide) ?_
          cases hF
          exact aw_zret rfl (by decide) dX5_takes_38 rfl rfl rfl
        · rw [if_neg c6] at hF
          refine aw_iload_n dX5_takes_30 3 rfl rfl ?_
          refine aw_sipush (v := (1440 : Int32)) dX5_takes_31 (by decide) ?_
          refine aw_icmp_lt (tgt := 39) dX5_takes_34 (by decide) (fun c7 => ?_) (fun c7 => ?_)
          · rw [if_pos c7] at hF
            refine aw_aload_n dX5_takes_39 0 rfl rfl ?_
            refine aw_geti fl_X5_30 (by decide) fg_X5_1 ha0 rfl dX5_takes_40 ?_
            refine aw_if_eq (tgt := 61) dX5_takes_43 (by decide) (fun c8 => ?_) (fun c8 => ?_)
            · rw [if_pos c8] at hF
              refine aw_iconst (v := (1 : Int32)) dX5_takes_61 (by decide) ?_
              refine aw_goto (tgt := 66) dX5_takes_62 (by decide) ?_
              cases hF
              exact aw_zret rfl (by decide) dX5_takes_66 rfl rfl rfl
            · rw [if_neg c8] at hF
              refine aw_iload_n dX5_takes_46 2 rfl rfl ?_
              refine aw_aload_n dX5_takes_47 0 rfl rfl ?_
              obtain ⟨r9, er9, hF⟩ := qbind hF
              have kr9 : qok R r9 9 := hW.get ha0 er9 rfl
              refine aw_getr fl_X5_18 (by decide) fg_X5_4 ha0 er9 rfl dX5_takes_48 ?_
              refine aw_aload_n dX5_takes_51 0 rfl rfl ?_
              refine aw_geti fl_X5_30 (by decide) fg_X5_1 ha0 rfl dX5_takes_52 ?_
              refine aw_iconst (v := (1 : Int32)) dX5_takes_55 (by decide) ?_
              refine aw_isub dX5_takes_56 ?_
              obtain ⟨x10, ex10, hF⟩ := qbind hF
              refine aw_ialdq kr9 ex10 dX5_takes_57 ?_
              refine aw_icmp_le (tgt := 65) dX5_takes_58 (by decide) (fun c11 => ?_) (fun c11 => ?_)
              · rw [if_pos c11] at hF
                refine aw_iconst (v := (0 : Int32)) dX5_takes_65 (by decide) ?_
                cases hF
                exact aw_zret rfl (by decide) dX5_takes_66 rfl rfl rfl
              · rw [if_neg c11] at hF
                refine aw_iconst (v := (1 : Int32)) dX5_takes_61 (by decide) ?_
                refine aw_goto (tgt := 66) dX5_takes_62 (by decide) ?_
                cases hF
                exact aw_zret rfl (by decide) dX5_takes_66 rfl rfl rfl
          · rw [if_neg c7] at hF
            refine aw_iconst (v := (0 : Int32)) dX5_takes_37 (by decide) ?_
            cases hF
            exact aw_zret rfl (by decide) dX5_takes_38 rfl rfl rfl
    · rw [if_neg c4] at hF
      refine aw_iconst (v := (0 : Int32)) dX5_takes_19 (by decide) ?_
      cases hF
      exact aw_zret rfl (by decide) dX5_takes_20 rfl rfl rfl
def cX5_move_2 (N : Nat) (R : qR) (b0 : Nat) (v1 : Int32) (v2 : Int32) (I : qI) : Option ((Int32 × qI) ⊕ (qI)) :=
  if (I b0 1) ≤ v2 then
    (some (.inr I))
  else
    ((R.1 b0 3).bind fun r2 =>
    (qrd I R r2 v2).bind fun x3 =>
    (qwr I R r2 v2 (x3 + v1)).bind fun I4 =>
    (R.1 b0 4).bind fun r5 =>
    (qrd I4 R r5 v2).bind fun x6 =>
    (qwr I4 R r5 v2 (x6 + v1)).bind fun I7 =>
    some (.inl ((v2 + 1), I7)))
set_option maxHeartbeats 4000000 in
set_option maxRecDepth 100000 in
theorem tX5_move_2 {l : Launch} {G : qG} {N : Nat} {R : qR} {As : List Value} {rv : Option Value} {I1 : qI} {b0 : Nat} {v1 : Int32} (hW : qWT R) (hb0 : qok R b0 5) {o : qI} (hx : AW (Zm l G mX5_move 1 As R rv I1 R) 36 [] [] o R) : ∀ n s, qloop (fun s => cX5_move_2 N R b0 v1 s.1 s.2) n s = some o → AW (Zm l G mX5_move 1 As R rv I1 R) 2 [(0, .ref (G.1 + b0)), (1, .int v1), (2, .int s.1)] [] s.2 R := by
  apply qloop_ind
  intro s x hF hc he
  obtain ⟨v2, I⟩ := s
  change cX5_move_2 N R b0 v1 v2 I = some x at hF
  unfold cX5_move_2 at hF
  show AW _ 2 [(0, .ref (G.1 + b0)), (1, .int v1), (2, .int v2)] [] I R
  refine aw_iload_n dX5_move_2 2 rfl rfl ?_
  refine aw_aload_n dX5_move_3 0 rfl rfl ?_
  refine aw_geti fl_X5_30 (by decide) fg_X5_1 hb0 rfl dX5_move_4 ?_
  refine aw_icmp_ge (tgt := 36) dX5_move_7 (by decide) (fun c1 => ?_) (fun c1 => ?_)
  · rw [if_pos c1] at hF
    cases hF
    have hE := he _ rfl
    subst hE
    exact aw_sub [] rfl hx
  · rw [if_neg c1] at hF
    refine aw_aload_n dX5_move_10 0 rfl rfl ?_
    obtain ⟨r2, er2, hF⟩ := qbind hF
    have kr2 : qok R r2 9 := hW.get hb0 er2 rfl
    refine aw_getr fl_X5_15 (by decide) fg_X5_3 hb0 er2 rfl dX5_move_11 ?_
    refine aw_iload_n dX5_move_14 2 rfl rfl ?_
    refine aw_dup2 dX5_move_15 rfl rfl ?_
    obtain ⟨x3, ex3, hF⟩ := qbind hF
    refine aw_ialdq kr2 ex3 dX5_move_16 ?_
    refine aw_iload_n dX5_move_17 1 rfl rfl ?_
    refine aw_iadd dX5_move_18 ?_
    obtain ⟨I4, eI4, hF⟩ := qbind hF
    refine aw_iastq kr2 eI4 dX5_move_19 ?_
    refine aw_aload_n dX5_move_20 0 rfl rfl ?_
    obtain ⟨r5, er5, hF⟩ := qbind hF
    have kr5 : qok R r5 9 := hW.get hb0 er5 rfl
    refine aw_getr fl_X5_18 (by decide) fg_X5_4 hb0 er5 rfl dX5_move_21 ?_
    refine aw_iload_n dX5_move_24 2 rfl rfl ?_
    refine aw_dup2 dX5_move_25 rfl rfl ?_
    obtain ⟨x6, ex6, hF⟩ := qbind hF
    refine aw_ialdq kr5 ex6 dX5_move_26 ?_
    refine aw_iload_n dX5_move_27 1 rfl rfl ?_
    refine aw_iadd dX5_move_28 ?_
    obtain ⟨I7, eI7, hF⟩ := qbind hF
    refine aw_iastq kr5 eI7 dX5_move_29 ?_
    refine aw_iinc (q := 2) (v := (v2 + 1)) dX5_move_30 rfl rfl (Nat.le_of_ble_eq_true rfl) rfl ?_
    refine aw_goto (tgt := 2) dX5_move_33 (by decide) ?_
    cases hF
    exact aw_sub [1, 2, 0] rfl (hc _ rfl)
def fX5_move (N : Nat) (R : qR) (I : qI) (a0 : Nat) (p1 : Int32) : Option (qI) :=
  (qloop (fun s => cX5_move_2 N R a0 p1 s.1 s.2) N ((0 : Int32), I)).bind fun o8 =>
  some o8
set_option maxHeartbeats 4000000 in
set_option maxRecDepth 100000 in
theorem sX5_move {l : Launch} {G : qG} {N : Nat} {R : qR} {I : qI} {a0 : Nat} {p1 : Int32} {r : qI} (hW : qWT R) (ha0 : qok R a0 5) (hF : fX5_move N R I a0 p1 = some r) : qMt l G mX5_move 1 [.ref (G.1 + a0), .int p1] I R (none) r R := by
  unfold fX5_move at hF
  refine qMt_of (by decide) (Nat.le_of_ble_eq_true rfl) ⟨Nat.le_refl _, Nat.le_refl _⟩ ?_
  show AW _ 0 [(0, .ref (G.1 + a0)), (1, .int p1)] [] I R
  refine aw_iconst (v := (0 : Int32)) dX5_move_0 (by decide) ?_
  refine aw_istore_n dX5_move_1 rfl (Nat.le_of_ble_eq_true rfl) rfl ?_
  obtain ⟨o8, eo8, hF⟩ := qbind hF
  refine aw_sub [1, 2, 0] rfl (tX5_move_2 hW ha0 (o := o8) ?_ N _ eo8)
  cases hF
  exact aw_vret rfl dX5_move_36 rfl rfl rfl
def fX5_leaves (R : qR) (I : qI) (a0 : Nat) (p1 : Int32) : Option (Int32) :=
  if p1 = ((I a0 1) - (1 : Int32)) then
    ((R.1 a0 3).bind fun r4 =>
    (qrd I R r4 p1).bind fun x5 =>
    some x5)
  else
    ((R.1 a0 4).bind fun r2 =>
    (qrd I R r2 p1).bind fun x3 =>
    some x3)
set_option maxHeartbeats 4000000 in
set_option maxRecDepth 100000 in
theorem sX5_leaves {l : Launch} {G : qG} {R : qR} {I : qI} {a0 : Nat} {p1 : Int32} {r : Int32} (hW : qWT R) (ha0 : qok R a0 5) (hF : fX5_leaves R I a0 p1 = some r) : qMt l G mX5_leaves 1 [.ref (G.1 + a0), .int p1] I R (some (.int r)) I R := by
  unfold fX5_leaves at hF
  refine qMt_of (by decide) (Nat.le_of_ble_eq_true rfl) ⟨Nat.le_refl _, Nat.le_refl _⟩ ?_
  show AW _ 0 [(0, .ref (G.1 + a0)), (1, .int p1)] [] I R
  refine aw_iload_n dX5_leaves_0 1 rfl rfl ?_
  refine aw_aload_n dX5_leaves_1 0 rfl rfl ?_
  refine aw_geti fl_X5_30 (by decide) fg_X5_1 ha0 rfl dX5_leaves_2 ?_
  refine aw_iconst (v := (1 : Int32)) dX5_leaves_5 (by decide) ?_
  refine aw_isub dX5_leaves_6 ?_
  refine aw_icmp_ne (tgt := 19) dX5_leaves_7 (by decide) (fun c1 => ?_) (fun c1 => ?_)
  · rw [if_neg c1] at hF
    refine aw_aload_n dX5_leaves_19 0 rfl rfl ?_
    obtain ⟨r2, er2, hF⟩ := qbind hF
    have kr2 : qok R r2 9 := hW.get ha0 er2 rfl
    refine aw_getr fl_X5_18 (by decide) fg_X5_4 ha0 er2 rfl dX5_leaves_20 ?_
    refine aw_iload_n dX5_leaves_23 1 rfl rfl ?_
    obtain ⟨x3, ex3, hF⟩ := qbind hF
    refine aw_ialdq kr2 ex3 dX5_leaves_24 ?_
    cases hF
    exact aw_iret rfl dX5_leaves_25 rfl rfl rfl
  · rw [if_pos c1] at hF
    refine aw_aload_n dX5_leaves_10 0 rfl rfl ?_
    obtain ⟨r4, er4, hF⟩ := qbind hF
    have kr4 : qok R r4 9 := hW.get ha0 er4 rfl
    refine aw_getr fl_X5_15 (by decide) fg_X5_3 ha0 er4 rfl dX5_leaves_11 ?_
    refine aw_iload_n dX5_leaves_14 1 rfl rfl ?_
    obtain ⟨x5, ex5, hF⟩ := qbind hF
    refine aw_ialdq kr4 ex5 dX5_leaves_15 ?_
    refine aw_goto (tgt := 25) dX5_leaves_16 (by decide) ?_
    cases hF
    exact aw_iret rfl dX5_leaves_25 rfl rfl rfl
def cX5_isAheadSomewhere_2 (N : Nat) (R : qR) (I : qI) (b0 : Nat) (b1 : Nat) (v2 : Int32) : Option ((Int32) ⊕ ((Unit) ⊕ (Int32))) :=
  if (I b0 1) ≤ v2 then
    (some (.inr (.inl ())))
  else
    ((R.1 b1 5).bind fun r2 =>
    (R.1 b0 2).bind fun r3 =>
    (qrd I R r3 v2).bind fun x4 =>
    (qrd I R r2 x4).bind fun x5 =>
    if x5 = (-1 : Int32) then
      (some (.inl (v2 + 1)))
    else
      ((fX5_leaves R I b0 v2).bind fun y7 =>
      (fX5_leaves R I b1 x5).bind fun y8 =>
      if y8 ≤ y7 then
        (some (.inl (v2 + 1)))
      else
        (some (.inr (.inr (1 : Int32))))))
set_option maxHeartbeats 4000000 in
set_option maxRecDepth 100000 in
theorem tX5_isAheadSomewhere_2 {l : Launch} {G : qG} {N : Nat} {R : qR} {I : qI} {As : List Value} {rv : Option Value} {b0 : Nat} {b1 : Nat} (hW : qWT R) (hb0 : qok R b0 5) (hb1 : qok R b1 5) {o : (Unit) ⊕ (Int32)} (hx : match o with | .inl e => AW (Zm l G mX5_isAheadSomewhere 2 As R rv I R) 48 [] [] I R | .inr rr => rv = some (.int rr) ∧ True) : ∀ n s, qloop (fun s => cX5_isAheadSomewhere_2 N R I b0 b1 s) n s = some o → AW (Zm l G mX5_isAheadSomewhere 2 As R rv I R) 2 [(0, .ref (G.1 + b0)), (1, .ref (G.1 + b1)), (2, .int s)] [] I R := by
  apply qloop_ind
  intro s x hF hc he
  obtain ⟨v2, rfl⟩ : ∃ z, z = s := ⟨s, rfl⟩
  change cX5_isAheadSomewhere_2 N R I b0 b1 v2 = some x at hF
  unfold cX5_isAheadSomewhere_2 at hF
  show AW _ 2 [(0, .ref (G.1 + b0)), (1, .ref (G.1 + b1)), (2, .int v2)] [] I R
  refine aw_iload_n dX5_isAheadSomewhere_2 2 rfl rfl ?_
  refine aw_aload_n dX5_isAheadSomewhere_3 0 rfl rfl ?_
  refine aw_geti fl_X5_30 (by decide) fg_X5_1 hb0 rfl dX5_isAheadSomewhere_4 ?_
  refine aw_icmp_ge (tgt := 48) dX5_isAheadSomewhere_7 (by decide) (fun c1 => ?_) (fun c1 => ?_)
  · rw [if_pos c1] at hF
    cases hF
    have hE := he _ rfl
    subst hE
    exact aw_sub [] rfl hx
  · rw [if_neg c1] at hF
    refine aw_aload_n dX5_isAheadSomewhere_10 1 rfl rfl ?_
    obtain ⟨r2, er2, hF⟩ := qbind hF
    have kr2 : qok R r2 9 := hW.get hb1 er2 rfl
    refine aw_getr fl_X5_21 (by decide) fg_X5_5 hb1 er2 rfl dX5_isAheadSomewhere_11 ?_
    refine aw_aload_n dX5_isAheadSomewhere_14 0 rfl rfl ?_
    obtain ⟨r3, er3, hF⟩ := qbind hF
    have kr3 : qok R r3 9 := hW.get hb0 er3 rfl
    refine aw_getr fl_X5_9 (by decide) fg_X5_2 hb0 er3 rfl dX5_isAheadSomewhere_15 ?_
    refine aw_iload_n dX5_isAheadSomewhere_18 2 rfl rfl ?_
    obtain ⟨x4, ex4, hF⟩ := qbind hF
    refine aw_ialdq kr3 ex4 dX5_isAheadSomewhere_19 ?_
    obtain ⟨x5, ex5, hF⟩ := qbind hF
    refine aw_ialdq kr2 ex5 dX5_isAheadSomewhere_20 ?_
    refine aw_istore_n dX5_isAheadSomewhere_21 rfl (Nat.le_of_ble_eq_true rfl) rfl ?_
    refine aw_iload_n dX5_isAheadSomewhere_22 0 rfl rfl ?_
    refine aw_iconst (v := (-1 : Int32)) dX5_isAheadSomewhere_23 (by decide) ?_
    refine aw_icmp_eq (tgt := 42) dX5_isAheadSomewhere_24 (by decide) (fun c6 => ?_) (fun c6 => ?_)
    · rw [if_pos c6] at hF
      refine aw_iinc (q := 3) (v := (v2 + 1)) dX5_isAheadSomewhere_42 rfl rfl (Nat.le_of_ble_eq_true rfl) rfl ?_
      refine aw_goto (tgt := 2) dX5_isAheadSomewhere_45 (by decide) ?_
      cases hF
      exact aw_sub [2, 3, 0] rfl (hc _ rfl)
    · rw [if_neg c6] at hF
      refine aw_aload_n dX5_isAheadSomewhere_27 1 rfl rfl ?_
      refine aw_iload_n dX5_isAheadSomewhere_28 3 rfl rfl ?_
      obtain ⟨y7, ey7, hF⟩ := qbind hF
      refine aw_callVi (As := [.int v2]) (sX5_leaves hW hb0 ey7) cl_X5_39 rfl (qroomL (by decide) (by decide)) rfl hb0 (Nat.le_of_ble_eq_true rfl) dX5_isAheadSomewhere_29 rfl ?_
      refine aw_aload_n dX5_isAheadSomewhere_32 2 rfl rfl ?_
      refine aw_iload_n dX5_isAheadSomewhere_33 0 rfl rfl ?_
      obtain ⟨y8, ey8, hF⟩ := qbind hF
      refine aw_callVi (As := [.int x5]) (sX5_leaves hW hb1 ey8) cl_X5_39 rfl (qroomL (by decide) (by decide)) rfl hb1 (Nat.le_of_ble_eq_true rfl) dX5_isAheadSomewhere_34 rfl ?_
      refine aw_icmp_ge (tgt := 42) dX5_isAheadSomewhere_37 (by decide) (fun c9 => ?_) (fun c9 => ?_)
      · rw [if_pos c9] at hF
        refine aw_iinc (q := 3) (v := (v2 + 1)) dX5_isAheadSomewhere_42 rfl rfl (Nat.le_of_ble_eq_true rfl) rfl ?_
        refine aw_goto (tgt := 2) dX5_isAheadSomewhere_45 (by decide) ?_
        cases hF
        exact aw_sub [2, 3, 0] rfl (hc _ rfl)
      · rw [if_neg c9] at hF
        refine aw_iconst (v := (1 : Int32)) dX5_isAheadSomewhere_40 (by decide) ?_
        cases hF
        have hE := he _ rfl
        subst hE
        exact aw_zret rfl (by decide) dX5_isAheadSomewhere_41 hx.1 rfl rfl
def fX5_isAheadSomewhere (N : Nat) (R : qR) (I : qI) (a0 : Nat) (a1 : Nat) : Option (Int32) :=
  (qloop (fun s => cX5_isAheadSomewhere_2 N R I a0 a1 s) N (0 : Int32)).bind fun o10 =>
  qx o10 (fun e11 =>
    some (0 : Int32)) (fun q12 => some q12)
set_option maxHeartbeats 4000000 in
set_option maxRecDepth 100000 in
theorem sX5_isAheadSomewhere {l : Launch} {G : qG} {N : Nat} {R : qR} {I : qI} {a0 : Nat} {a1 : Nat} {r : Int32} (hW : qWT R) (ha0 : qok R a0 5) (ha1 : qok R a1 5) (hF : fX5_isAheadSomewhere N R I a0 a1 = some r) : qMt l G mX5_isAheadSomewhere 2 [.ref (G.1 + a0), .ref (G.1 + a1)] I R (some (.int r)) I R := by
  unfold fX5_isAheadSomewhere at hF
  refine qMt_of (by decide) (Nat.le_of_ble_eq_true rfl) ⟨Nat.le_refl _, Nat.le_refl _⟩ ?_
  show AW _ 0 [(0, .ref (G.1 + a0)), (1, .ref (G.1 + a1))] [] I R
  refine aw_iconst (v := (0 : Int32)) dX5_isAheadSomewhere_0 (by decide) ?_
  refine aw_istore_n dX5_isAheadSomewhere_1 rfl (Nat.le_of_ble_eq_true rfl) rfl ?_
  obtain ⟨o10, eo10, hF⟩ := qbind hF
  refine aw_sub [1, 2, 0] rfl (tX5_isAheadSomewhere_2 hW ha0 ha1 (o := o10) ?_ N _ eo10)
  cases o10 with
  | inl e11 =>
    replace hF := qxl hF
    show AW _ 48 [] [] I R
    refine aw_iconst (v := (0 : Int32)) dX5_isAheadSomewhere_48 (by decide) ?_
    cases hF
    exact aw_zret rfl (by decide) dX5_isAheadSomewhere_49 rfl rfl rfl
  | inr q12 =>
    replace hF := qxr hF
    cases hF
    exact ⟨rfl, trivial⟩
def fX5_read (R : qR) (I : qI) (a0 : Nat) (p1 : Int32) : Option (Int32) :=
  if p1 = 0 then
    (some (I a0 0))
  else
    (if p1 = (1 : Int32) then
      (some (I a0 1))
    else
      (if ((p1 / (10 : Int32)) - (1 : Int32)) < 0 then
        (some (-1 : Int32))
      else
        (if ((p1 / (10 : Int32)) - (1 : Int32)) < (I a0 1) then
          (if (p1 - p1 / (10 : Int32) * (10 : Int32)) = (0 : Int32) then
            ((R.1 a0 2).bind fun r6 =>
            (qrd I R r6 ((p1 / (10 : Int32)) - (1 : Int32))).bind fun x7 =>
            some x7)
          else
          if (p1 - p1 / (10 : Int32) * (10 : Int32)) = (1 : Int32) then
            ((R.1 a0 3).bind fun r9 =>
            (qrd I R r9 ((p1 / (10 : Int32)) - (1 : Int32))).bind fun x10 =>
            some x10)
          else
          if (p1 - p1 / (10 : Int32) * (10 : Int32)) = (2 : Int32) then
            ((R.1 a0 4).bind fun r12 =>
            (qrd I R r12 ((p1 / (10 : Int32)) - (1 : Int32))).bind fun x13 =>
            some x13)
          else
          some (-1 : Int32))
        else
          (some (-1 : Int32)))))
set_option maxHeartbeats 4000000 in
set_option maxRecDepth 100000 in
theorem sX5_read {l : Launch} {G : qG} {R : qR} {I : qI} {a0 : Nat} {p1 : Int32} {r : Int32} (hW : qWT R) (ha0 : qok R a0 5) (hF : fX5_read R I a0 p1 = some r) : qMt l G mX5_read 1 [.ref (G.1 + a0), .int p1] I R (some (.int r)) I R := by
  unfold fX5_read at hF
  refine qMt_of (by decide) (Nat.le_of_ble_eq_true rfl) ⟨Nat.le_refl _, Nat.le_refl _⟩ ?_
  show AW _ 0 [(0, .ref (G.1 + a0)), (1, .int p1)] [] I R
  refine aw_iload_n dX5_read_0 1 rfl rfl ?_
  refine aw_if_ne (tgt := 9) dX5_read_1 (by decide) (fun c1 => ?_) (fun c1 => ?_)
  · rw [if_neg c1] at hF
    refine aw_iload_n dX5_read_9 1 rfl rfl ?_
    refine aw_iconst (v := (1 : Int32)) dX5_read_10 (by decide) ?_
    refine aw_icmp_ne (tgt := 19) dX5_read_11 (by decide) (fun c2 => ?_) (fun c2 => ?_)
    · rw [if_neg c2] at hF
      refine aw_iload_n dX5_read_19 1 rfl rfl ?_
      refine aw_bipush (v := (10 : Int32)) dX5_read_20 (by decide) ?_
      refine aw_idiv dX5_read_22 (by decide) ?_
      refine aw_iconst (v := (1 : Int32)) dX5_read_23 (by decide) ?_
      refine aw_isub dX5_read_24 ?_
      refine aw_istore_n dX5_read_25 rfl (Nat.le_of_ble_eq_true rfl) rfl ?_
      refine aw_iload_n dX5_read_26 0 rfl rfl ?_
      refine aw_if_lt (tgt := 38) dX5_read_27 (by decide) (fun c3 => ?_) (fun c3 => ?_)
      · rw [if_pos c3] at hF
        refine aw_iconst (v := (-1 : Int32)) dX5_read_38 (by decide) ?_
        cases hF
        exact aw_iret rfl dX5_read_39 rfl rfl rfl
      · rw [if_neg c3] at hF
        refine aw_iload_n dX5_read_30 0 rfl rfl ?_
        refine aw_aload_n dX5_read_31 1 rfl rfl ?_
        refine aw_geti fl_X5_30 (by decide) fg_X5_1 ha0 rfl dX5_read_32 ?_
        refine aw_icmp_lt (tgt := 40) dX5_read_35 (by decide) (fun c4 => ?_) (fun c4 => ?_)
        · rw [if_pos c4] at hF
          refine aw_iload_n dX5_read_40 2 rfl rfl ?_
          refine aw_bipush (v := (10 : Int32)) dX5_read_41 (by decide) ?_
          refine aw_irem dX5_read_43 (by decide) ?_
          by_cases c5 : (p1 - p1 / (10 : Int32) * (10 : Int32)) = (0 : Int32)
          · rw [if_pos c5] at hF
            refine aw_tableEq (tgt := 72) dX5_read_44 c5 (by decide) (by decide) rfl (by decide) ?_
            refine aw_aload_n dX5_read_72 1 rfl rfl ?_
            obtain ⟨r6, er6, hF⟩ := qbind hF
            have kr6 : qok R r6 9 := hW.get ha0 er6 rfl
            refine aw_getr fl_X5_9 (by decide) fg_X5_2 ha0 er6 rfl dX5_read_73 ?_
            refine aw_iload_n dX5_read_76 0 rfl rfl ?_
            obtain ⟨x7, ex7, hF⟩ := qbind hF
            refine aw_ialdq kr6 ex7 dX5_read_77 ?_
            cases hF
            exact aw_iret rfl dX5_read_78 rfl rfl rfl
          · rw [if_neg c5] at hF
            by_cases c8 : (p1 - p1 / (10 : Int32) * (10 : Int32)) = (1 : Int32)
            · rw [if_pos c8] at hF
              refine aw_tableEq (tgt := 79) dX5_read_44 c8 (by decide) (by decide) rfl (by decide) ?_
              refine aw_aload_n dX5_read_79 1 rfl rfl ?_
              obtain ⟨r9, er9, hF⟩ := qbind hF
              have kr9 : qok R r9 9 := hW.get ha0 er9 rfl
              refine aw_getr fl_X5_15 (by decide) fg_X5_3 ha0 er9 rfl dX5_read_80 ?_
              refine aw_iload_n dX5_read_83 0 rfl rfl ?_
              obtain ⟨x10, ex10, hF⟩ := qbind hF
              refine aw_ialdq kr9 ex10 dX5_read_84 ?_
              cases hF
              exact aw_iret rfl dX5_read_85 rfl rfl rfl
            · rw [if_neg c8] at hF
              by_cases c11 : (p1 - p1 / (10 : Int32) * (10 : Int32)) = (2 : Int32)
              · rw [if_pos c11] at hF
                refine aw_tableEq (tgt := 86) dX5_read_44 c11 (by decide) (by decide) rfl (by decide) ?_
                refine aw_aload_n dX5_read_86 1 rfl rfl ?_
                obtain ⟨r12, er12, hF⟩ := qbind hF
                have kr12 : qok R r12 9 := hW.get ha0 er12 rfl
                refine aw_getr fl_X5_18 (by decide) fg_X5_4 ha0 er12 rfl dX5_read_87 ?_
                refine aw_iload_n dX5_read_90 0 rfl rfl ?_
                obtain ⟨x13, ex13, hF⟩ := qbind hF
                refine aw_ialdq kr12 ex13 dX5_read_91 ?_
                cases hF
                exact aw_iret rfl dX5_read_92 rfl rfl rfl
              · rw [if_neg c11] at hF
                refine aw_tableOut (tgt := 93) dX5_read_44 (qtout _ 2 (fun j hj => by
                  match j, hj with
                  | 0, _ => exact c5
                  | 1, _ => exact c8
                  | 2, _ => exact c11
                  | j + 3, h => exact absurd h (by omega))) (by decide) ?_
                refine aw_iconst (v := (-1 : Int32)) dX5_read_93 (by decide) ?_
                cases hF
                exact aw_iret rfl dX5_read_94 rfl rfl rfl
        · rw [if_neg c4] at hF
          refine aw_iconst (v := (-1 : Int32)) dX5_read_38 (by decide) ?_
          cases hF
          exact aw_iret rfl dX5_read_39 rfl rfl rfl
    · rw [if_pos c2] at hF
      refine aw_aload_n dX5_read_14 0 rfl rfl ?_
      refine aw_geti fl_X5_30 (by decide) fg_X5_1 ha0 rfl dX5_read_15 ?_
      cases hF
      exact aw_iret rfl dX5_read_18 rfl rfl rfl
  · rw [if_pos c1] at hF
    refine aw_aload_n dX5_read_4 0 rfl rfl ?_
    refine aw_geti fl_X5_36 (by decide) fg_X5_0 ha0 rfl dX5_read_5 ?_
    cases hF
    exact aw_iret rfl dX5_read_8 rfl rfl rfl
def fX5_staysInDay (R : qR) (I : qI) (a0 : Nat) (p1 : Int32) : Option (Int32) :=
  if (I a0 1) = 0 then
    (some (1 : Int32))
  else
    ((R.1 a0 3).bind fun r2 =>
    (qrd I R r2 (0 : Int32)).bind fun x3 =>
    (R.1 a0 4).bind fun r4 =>
    (qrd I R r4 ((I a0 1) - (1 : Int32))).bind fun x5 =>
    if (lg_cmp ((x3).toInt64 + (p1).toInt64) (0 : Int64)) < 0 then
      (some (0 : Int32))
    else
      (if 0 ≤ (lg_cmp ((x5).toInt64 + (p1).toInt64) (1440 : Int64)) then
        (some (0 : Int32))
      else
        (some (1 : Int32))))
set_option maxHeartbeats 4000000 in
set_option maxRecDepth 100000 in
theorem sX5_staysInDay {l : Launch} {G : qG} {R : qR} {I : qI} {a0 : Nat} {p1 : Int32} {r : Int32} (hW : qWT R) (ha0 : qok R a0 5) (hF : fX5_staysInDay R I a0 p1 = some r) : qMt l G mX5_staysInDay 1 [.ref (G.1 + a0), .int p1] I R (some (.int r)) I R := by
  unfold fX5_staysInDay at hF
  refine qMt_of (by decide) (Nat.le_of_ble_eq_true rfl) ⟨Nat.le_refl _, Nat.le_refl _⟩ ?_
  show AW _ 0 [(0, .ref (G.1 + a0)), (1, .int p1)] [] I R
  refine aw_aload_n dX5_staysInDay_0 0 rfl rfl ?_
  refine aw_geti fl_X5_30 (by decide) fg_X5_1 ha0 rfl dX5_staysInDay_1 ?_
  refine aw_if_ne (tgt := 9) dX5_staysInDay_4 (by decide) (fun c1 => ?_) (fun c1 => ?_)
  · rw [if_neg c1] at hF
    refine aw_aload_n dX5_staysInDay_9 0 rfl rfl ?_
    obtain ⟨r2, er2, hF⟩ := qbind hF
    have kr2 : qok R r2 9 := hW.get ha0 er2 rfl
    refine aw_getr fl_X5_15 (by decide) fg_X5_3 ha0 er2 rfl dX5_staysInDay_10 ?_
    refine aw_iconst (v := (0 : Int32)) dX5_staysInDay_13 (by decide) ?_
    obtain ⟨x3, ex3, hF⟩ := qbind hF
    refine aw_ialdq kr2 ex3 dX5_staysInDay_14 ?_
    refine aw_i2l dX5_staysInDay_15 ?_
    refine aw_iload_n dX5_staysInDay_16 1 rfl rfl ?_
    refine aw_i2l dX5_staysInDay_17 ?_
    refine aw_ladd dX5_staysInDay_18 ?_
    refine aw_lstore_n dX5_staysInDay_19 rfl (Nat.le_of_ble_eq_true rfl) rfl ?_
    refine aw_aload_n dX5_staysInDay_20 1 rfl rfl ?_
    obtain ⟨r4, er4, hF⟩ := qbind hF
    have kr4 : qok R r4 9 := hW.get ha0 er4 rfl
    refine aw_getr fl_X5_18 (by decide) fg_X5_4 ha0 er4 rfl dX5_staysInDay_21 ?_
    refine aw_aload_n dX5_staysInDay_24 1 rfl rfl ?_
    refine aw_geti fl_X5_30 (by decide) fg_X5_1 ha0 rfl dX5_staysInDay_25 ?_
    refine aw_iconst (v := (1 : Int32)) dX5_staysInDay_28 (by decide) ?_
    refine aw_isub dX5_staysInDay_29 ?_
    obtain ⟨x5, ex5, hF⟩ := qbind hF
    refine aw_ialdq kr4 ex5 dX5_staysInDay_30 ?_
    refine aw_i2l dX5_staysInDay_31 ?_
    refine aw_iload_n dX5_staysInDay_32 2 rfl rfl ?_
    refine aw_i2l dX5_staysInDay_33 ?_
    refine aw_ladd dX5_staysInDay_34 ?_
    refine aw_lstore dX5_staysInDay_35 (Nat.le_of_ble_eq_true rfl) rfl ?_
    refine aw_lload_n dX5_staysInDay_37 1 rfl rfl ?_
    refine aw_lconst (v := (0 : Int64)) dX5_staysInDay_38 (by decide) ?_
    refine aw_lcmp dX5_staysInDay_39 ?_
    refine aw_if_lt (tgt := 56) dX5_staysInDay_40 (by decide) (fun c6 => ?_) (fun c6 => ?_)
    · rw [if_pos c6] at hF
      refine aw_iconst (v := (0 : Int32)) dX5_staysInDay_56 (by decide) ?_
      cases hF
      exact aw_zret rfl (by decide) dX5_staysInDay_57 rfl rfl rfl
    · rw [if_neg c6] at hF
      refine aw_lload dX5_staysInDay_43 0 rfl ?_
      refine aw_ldc2 ck_X5_34 rfl dX5_staysInDay_45 ?_
      refine aw_lcmp dX5_staysInDay_48 ?_
      refine aw_if_ge (tgt := 56) dX5_staysInDay_49 (by decide) (fun c7 => ?_) (fun c7 => ?_)
      · rw [if_pos c7] at hF
        refine aw_iconst (v := (0 : Int32)) dX5_staysInDay_56 (by decide) ?_
        cases hF
        exact aw_zret rfl (by decide) dX5_staysInDay_57 rfl rfl rfl
      · rw [if_neg c7] at hF
        refine aw_iconst (v := (1 : Int32)) dX5_staysInDay_52 (by decide) ?_
        refine aw_goto (tgt := 57) dX5_staysInDay_53 (by decide) ?_
        cases hF
        exact aw_zret rfl (by decide) dX5_staysInDay_57 rfl rfl rfl
  · rw [if_pos c1] at hF
    refine aw_iconst (v := (1 : Int32)) dX5_staysInDay_7 (by decide) ?_
    cases hF
    exact aw_zret rfl (by decide) dX5_staysInDay_8 rfl rfl rfl
end
