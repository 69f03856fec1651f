theorem dX6_countLegs_55 : decode cX6_countLegs 55 = .ok (.goto (-52), 3) := by decide +kernel
theorem dX6_countLegs_58 : decode cX6_countLegs 58 = .ok (.aload_n 0, 1) := by decide +kernel
theorem dX6_countLegs_59 : decode cX6_countLegs 59 = .ok (.iconst 1, 1) := by decide +kernel
theorem dX6_countLegs_60 : decode cX6_countLegs 60 = .ok (.putfield 72, 3) := by decide +kernel
theorem dX6_countLegs_63 : decode cX6_countLegs 63 = .ok (.aload_n 0, 1) := by decide +kernel
theorem dX6_countLegs_64 : decode cX6_countLegs 64 = .ok (.getfield 72, 3) := by decide +kernel
theorem dX6_countLegs_67 : decode cX6_countLegs 67 = .ok (.aload_n 0, 1) := by decide +kernel
theorem dX6_countLegs_68 : decode cX6_countLegs 68 = .ok (.getfield 42, 3) := by decide +kernel
theorem dX6_countLegs_71 : decode cX6_countLegs 71 = .ok (.if_icmp .ge 97, 3) := by decide +kernel
theorem dX6_countLegs_74 : decode cX6_countLegs 74 = .ok (.aload_n 0, 1) := by decide +kernel
theorem dX6_countLegs_75 : decode cX6_countLegs 75 = .ok (.iload_n 1, 1) := by decide +kernel
theorem dX6_countLegs_76 : decode cX6_countLegs 76 = .ok (.iload_n 3, 1) := by decide +kernel
theorem dX6_countLegs_77 : decode cX6_countLegs 77 = .ok (.invokevirtual 118, 3) := by decide +kernel
theorem dX6_countLegs_80 : decode cX6_countLegs 80 = .ok (.iconst (-1), 1) := by decide +kernel
theorem dX6_countLegs_81 : decode cX6_countLegs 81 = .ok (.if_icmp .ne 87, 3) := by decide +kernel
theorem dX6_countLegs_84 : decode cX6_countLegs 84 = .ok (.iconst 0, 1) := by decide +kernel
theorem dX6_countLegs_85 : decode cX6_countLegs 85 = .ok (.istore 4, 2) := by decide +kernel
theorem dX6_countLegs_87 : decode cX6_countLegs 87 = .ok (.iload 4, 2) := by decide +kernel
theorem dX6_countLegs_89 : decode cX6_countLegs 89 = .ok (.aload_n 0, 1) := by decide +kernel
theorem dX6_countLegs_90 : decode cX6_countLegs 90 = .ok (.getfield 42, 3) := by decide +kernel
theorem dX6_countLegs_93 : decode cX6_countLegs 93 = .ok (.if_icmp .ge 62, 3) := by decide +kernel
theorem dX6_countLegs_96 : decode cX6_countLegs 96 = .ok (.aload_n 0, 1) := by decide +kernel
theorem dX6_countLegs_97 : decode cX6_countLegs 97 = .ok (.getfield 21, 3) := by decide +kernel
theorem dX6_countLegs_100 : decode cX6_countLegs 100 = .ok (.aload_n 0, 1) := by decide +kernel
theorem dX6_countLegs_101 : decode cX6_countLegs 101 = .ok (.getfield 72, 3) := by decide +kernel
theorem dX6_countLegs_104 : decode cX6_countLegs 104 = .ok (.bipush 10, 2) := by decide +kernel
theorem dX6_countLegs_106 : decode cX6_countLegs 106 = .ok (.imul, 1) := by decide +kernel
theorem dX6_countLegs_107 : decode cX6_countLegs 107 = .ok (.iload 4, 2) := by decide +kernel
theorem dX6_countLegs_109 : decode cX6_countLegs 109 = .ok (.iadd, 1) := by decide +kernel
theorem dX6_countLegs_110 : decode cX6_countLegs 110 = .ok (.aload_n 0, 1) := by decide +kernel
theorem dX6_countLegs_111 : decode cX6_countLegs 111 = .ok (.getfield 11, 3) := by decide +kernel
theorem dX6_countLegs_114 : decode cX6_countLegs 114 = .ok (.iload 4, 2) := by decide +kernel
theorem dX6_countLegs_116 : decode cX6_countLegs 116 = .ok (.aaload, 1) := by decide +kernel
theorem dX6_countLegs_117 : decode cX6_countLegs 117 = .ok (.aload_n 0, 1) := by decide +kernel
theorem dX6_countLegs_118 : decode cX6_countLegs 118 = .ok (.getfield 46, 3) := by decide +kernel
theorem dX6_countLegs_121 : decode cX6_countLegs 121 = .ok (.invokevirtual 103, 3) := by decide +kernel
theorem dX6_countLegs_124 : decode cX6_countLegs 124 = .ok (.ifCond .eq 23, 3) := by decide +kernel
theorem dX6_countLegs_127 : decode cX6_countLegs 127 = .ok (.aload_n 0, 1) := by decide +kernel
theorem dX6_countLegs_128 : decode cX6_countLegs 128 = .ok (.aload_n 0, 1) := by decide +kernel
theorem dX6_countLegs_129 : decode cX6_countLegs 129 = .ok (.getfield 11, 3) := by decide +kernel
theorem dX6_countLegs_132 : decode cX6_countLegs 132 = .ok (.iload 4, 2) := by decide +kernel
theorem dX6_countLegs_134 : decode cX6_countLegs 134 = .ok (.aaload, 1) := by decide +kernel
theorem dX6_countLegs_135 : decode cX6_countLegs 135 = .ok (.aload_n 0, 1) := by decide +kernel
theorem dX6_countLegs_136 : decode cX6_countLegs 136 = .ok (.getfield 72, 3) := by decide +kernel
theorem dX6_countLegs_139 : decode cX6_countLegs 139 = .ok (.iconst 1, 1) := by decide +kernel
theorem dX6_countLegs_140 : decode cX6_countLegs 140 = .ok (.isub, 1) := by decide +kernel
theorem dX6_countLegs_141 : decode cX6_countLegs 141 = .ok (.invokevirtual 121, 3) := by decide +kernel
theorem dX6_countLegs_144 : decode cX6_countLegs 144 = .ok (.goto 4, 3) := by decide +kernel
theorem dX6_countLegs_147 : decode cX6_countLegs 147 = .ok (.iconst (-1), 1) := by decide +kernel
theorem dX6_countLegs_148 : decode cX6_countLegs 148 = .ok (.iastore, 1) := by decide +kernel
theorem dX6_countLegs_149 : decode cX6_countLegs 149 = .ok (.iinc 4 1, 3) := by decide +kernel
theorem dX6_countLegs_152 : decode cX6_countLegs 152 = .ok (.goto (-65), 3) := by decide +kernel
theorem dX6_countLegs_155 : decode cX6_countLegs 155 = .ok (.aload_n 0, 1) := by decide +kernel
theorem dX6_countLegs_156 : decode cX6_countLegs 156 = .ok (.dup, 1) := by decide +kernel
theorem dX6_countLegs_157 : decode cX6_countLegs 157 = .ok (.getfield 72, 3) := by decide +kernel
theorem dX6_countLegs_160 : decode cX6_countLegs 160 = .ok (.iconst 1, 1) := by decide +kernel
theorem dX6_countLegs_161 : decode cX6_countLegs 161 = .ok (.iadd, 1) := by decide +kernel
theorem dX6_countLegs_162 : decode cX6_countLegs 162 = .ok (.putfield 72, 3) := by decide +kernel
theorem dX6_countLegs_165 : decode cX6_countLegs 165 = .ok (.goto (-102), 3) := by decide +kernel
theorem dX6_countLegs_168 : decode cX6_countLegs 168 = .ok (.return_, 1) := by decide +kernel
theorem dX6_lastBoardTo_0 : decode cX6_lastBoardTo 0 = .ok (.aload_n 1, 1) := by decide +kernel
theorem dX6_lastBoardTo_1 : decode cX6_lastBoardTo 1 = .ok (.getfield 124, 3) := by decide +kernel
theorem dX6_lastBoardTo_4 : decode cX6_lastBoardTo 4 = .ok (.iload_n 2, 1) := by decide +kernel
theorem dX6_lastBoardTo_5 : decode cX6_lastBoardTo 5 = .ok (.iaload, 1) := by decide +kernel
theorem dX6_lastBoardTo_6 : decode cX6_lastBoardTo 6 = .ok (.istore_n 3, 1) := by decide +kernel
theorem dX6_lastBoardTo_7 : decode cX6_lastBoardTo 7 = .ok (.iload_n 3, 1) := by decide +kernel
theorem dX6_lastBoardTo_8 : decode cX6_lastBoardTo 8 = .ok (.ifCond .le 22, 3) := by decide +kernel
theorem dX6_lastBoardTo_11 : decode cX6_lastBoardTo 11 = .ok (.aload_n 1, 1) := by decide +kernel
theorem dX6_lastBoardTo_12 : decode cX6_lastBoardTo 12 = .ok (.getfield 94, 3) := by decide +kernel
theorem dX6_lastBoardTo_15 : decode cX6_lastBoardTo 15 = .ok (.iload_n 3, 1) := by decide +kernel
theorem dX6_lastBoardTo_16 : decode cX6_lastBoardTo 16 = .ok (.iaload, 1) := by decide +kernel
theorem dX6_lastBoardTo_17 : decode cX6_lastBoardTo 17 = .ok (.aload_n 0, 1) := by decide +kernel
theorem dX6_lastBoardTo_18 : decode cX6_lastBoardTo 18 = .ok (.getfield 56, 3) := by decide +kernel
theorem dX6_lastBoardTo_21 : decode cX6_lastBoardTo 21 = .ok (.if_icmp .ne 9, 3) := by decide +kernel
theorem dX6_lastBoardTo_24 : decode cX6_lastBoardTo 24 = .ok (.iload_n 3, 1) := by decide +kernel
theorem dX6_lastBoardTo_25 : decode cX6_lastBoardTo 25 = .ok (.iconst 1, 1) := by decide +kernel
theorem dX6_lastBoardTo_26 : decode cX6_lastBoardTo 26 = .ok (.isub, 1) := by decide +kernel
theorem dX6_lastBoardTo_27 : decode cX6_lastBoardTo 27 = .ok (.goto 4, 3) := by decide +kernel
theorem dX6_lastBoardTo_30 : decode cX6_lastBoardTo 30 = .ok (.iconst (-1), 1) := by decide +kernel
theorem dX6_lastBoardTo_31 : decode cX6_lastBoardTo 31 = .ok (.ireturn, 1) := by decide +kernel
theorem dX6_lastBoardBefore_0 : decode cX6_lastBoardBefore 0 = .ok (.aload_n 1, 1) := by decide +kernel
theorem dX6_lastBoardBefore_1 : decode cX6_lastBoardBefore 1 = .ok (.getfield 111, 3) := by decide +kernel
theorem dX6_lastBoardBefore_4 : decode cX6_lastBoardBefore 4 = .ok (.iconst 1, 1) := by decide +kernel
theorem dX6_lastBoardBefore_5 : decode cX6_lastBoardBefore 5 = .ok (.isub, 1) := by decide +kernel
theorem dX6_lastBoardBefore_6 : decode cX6_lastBoardBefore 6 = .ok (.istore_n 3, 1) := by decide +kernel
theorem dX6_lastBoardBefore_7 : decode cX6_lastBoardBefore 7 = .ok (.iload_n 3, 1) := by decide +kernel
theorem dX6_lastBoardBefore_8 : decode cX6_lastBoardBefore 8 = .ok (.ifCond .le 59, 3) := by decide +kernel
theorem dX6_lastBoardBefore_11 : decode cX6_lastBoardBefore 11 = .ok (.iconst 0, 1) := by decide +kernel
theorem dX6_lastBoardBefore_12 : decode cX6_lastBoardBefore 12 = .ok (.istore 4, 2) := by decide +kernel
theorem dX6_lastBoardBefore_14 : decode cX6_lastBoardBefore 14 = .ok (.iload 4, 2) := by decide +kernel
theorem dX6_lastBoardBefore_16 : decode cX6_lastBoardBefore 16 = .ok (.aload_n 0, 1) := by decide +kernel
theorem dX6_lastBoardBefore_17 : decode cX6_lastBoardBefore 17 = .ok (.getfield 42, 3) := by decide +kernel
theorem dX6_lastBoardBefore_20 : decode cX6_lastBoardBefore 20 = .ok (.if_icmp .ge 41, 3) := by decide +kernel
theorem dX6_lastBoardBefore_23 : decode cX6_lastBoardBefore 23 = .ok (.aload_n 0, 1) := by decide +kernel
theorem dX6_lastBoardBefore_24 : decode cX6_lastBoardBefore 24 = .ok (.aload_n 1, 1) := by decide +kernel
theorem dX6_lastBoardBefore_25 : decode cX6_lastBoardBefore 25 = .ok (.iload_n 3, 1) := by decide +kernel
theorem dX6_lastBoardBefore_26 : decode cX6_lastBoardBefore 26 = .ok (.aload_n 0, 1) := by decide +kernel
theorem dX6_lastBoardBefore_27 : decode cX6_lastBoardBefore 27 = .ok (.getfield 11, 3) := by decide +kernel
theorem dX6_lastBoardBefore_30 : decode cX6_lastBoardBefore 30 = .ok (.iload 4, 2) := by decide +kernel
theorem dX6_lastBoardBefore_32 : decode cX6_lastBoardBefore 32 = .ok (.aaload, 1) := by decide +kernel
theorem dX6_lastBoardBefore_33 : decode cX6_lastBoardBefore 33 = .ok (.aload_n 0, 1) := by decide +kernel
theorem dX6_lastBoardBefore_34 : decode cX6_lastBoardBefore 34 = .ok (.getfield 21, 3) := by decide +kernel
theorem dX6_lastBoardBefore_37 : decode cX6_lastBoardBefore 37 = .ok (.iload_n 2, 1) := by decide +kernel
theorem dX6_lastBoardBefore_38 : decode cX6_lastBoardBefore 38 = .ok (.bipush 10, 2) := by decide +kernel
theorem dX6_lastBoardBefore_40 : decode cX6_lastBoardBefore 40 = .ok (.imul, 1) := by decide +kernel
theorem dX6_lastBoardBefore_41 : decode cX6_lastBoardBefore 41 = .ok (.iload 4, 2) := by decide +kernel
theorem dX6_lastBoardBefore_43 : decode cX6_lastBoardBefore 43 = .ok (.iadd, 1) := by decide +kernel
theorem dX6_lastBoardBefore_44 : decode cX6_lastBoardBefore 44 = .ok (.iaload, 1) := by decide +kernel
theorem dX6_lastBoardBefore_45 : decode cX6_lastBoardBefore 45 = .ok (.invokevirtual 127, 3) := by decide +kernel
theorem dX6_lastBoardBefore_48 : decode cX6_lastBoardBefore 48 = .ok (.ifCond .eq 7, 3) := by decide +kernel
theorem dX6_lastBoardBefore_51 : decode cX6_lastBoardBefore 51 = .ok (.iload_n 3, 1) := by decide +kernel
theorem dX6_lastBoardBefore_52 : decode cX6_lastBoardBefore 52 = .ok (.iconst 1, 1) := by decide +kernel
theorem dX6_lastBoardBefore_53 : decode cX6_lastBoardBefore 53 = .ok (.isub, 1) := by decide +kernel
theorem dX6_lastBoardBefore_54 : decode cX6_lastBoardBefore 54 = .ok (.ireturn, 1) := by decide +kernel
theorem dX6_lastBoardBefore_55 : decode cX6_lastBoardBefore 55 = .ok (.iinc 4 1, 3) := by decide +kernel
theorem dX6_lastBoardBefore_58 : decode cX6_lastBoardBefore 58 = .ok (.goto (-44), 3) := by decide +kernel
theorem dX6_lastBoardBefore_61 : decode cX6_lastBoardBefore 61 = .ok (.iinc 3 (-1), 3) := by decide +kernel
theorem dX6_lastBoardBefore_64 : decode cX6_lastBoardBefore 64 = .ok (.goto (-57), 3) := by decide +kernel
theorem dX6_lastBoardBefore_67 : decode cX6_lastBoardBefore 67 = .ok (.iconst (-1), 1) := by decide +kernel
theorem dX6_lastBoardBefore_68 : decode cX6_lastBoardBefore 68 = .ok (.ireturn, 1) := by decide +kernel
theorem dX6_canChange_0 : decode cX6_canChange 0 = .ok (.aload_n 3, 1) := by decide +kernel
theorem dX6_canChange_1 : decode cX6_canChange 1 = .ok (.getfield 124, 3) := by decide +kernel
theorem dX6_canChange_4 : decode cX6_canChange 4 = .ok (.aload_n 1, 1) := by decide +kernel
theorem dX6_canChange_5 : decode cX6_canChange 5 = .ok (.getfield 88, 3) := by decide +kernel
theorem dX6_canChange_8 : decode cX6_canChange 8 = .ok (.iload_n 2, 1) := by decide +kernel
theorem dX6_canChange_9 : decode cX6_canChange 9 = .ok (.iaload, 1) := by decide +kernel
theorem dX6_canChange_10 : decode cX6_canChange 10 = .ok (.iaload, 1) := by decide +kernel
theorem dX6_canChange_11 : decode cX6_canChange 11 = .ok (.istore 5, 2) := by decide +kernel
theorem dX6_canChange_13 : decode cX6_canChange 13 = .ok (.iload 5, 2) := by decide +kernel
theorem dX6_canChange_15 : decode cX6_canChange 15 = .ok (.iconst (-1), 1) := by decide +kernel
theorem dX6_canChange_16 : decode cX6_canChange 16 = .ok (.if_icmp .eq 35, 3) := by decide +kernel
theorem dX6_canChange_19 : decode cX6_canChange 19 = .ok (.iload 5, 2) := by decide +kernel
theorem dX6_canChange_21 : decode cX6_canChange 21 = .ok (.iload 4, 2) := by decide +kernel
theorem dX6_canChange_23 : decode cX6_canChange 23 = .ok (.if_icmp .gt 28, 3) := by decide +kernel
theorem dX6_canChange_26 : decode cX6_canChange 26 = .ok (.aload_n 3, 1) := by decide +kernel
theorem dX6_canChange_27 : decode cX6_canChange 27 = .ok (.getfield 91, 3) := by decide +kernel
theorem dX6_canChange_30 : decode cX6_canChange 30 = .ok (.iload 5, 2) := by decide +kernel
theorem dX6_canChange_32 : decode cX6_canChange 32 = .ok (.iaload, 1) := by decide +kernel
theorem dX6_canChange_33 : decode cX6_canChange 33 = .ok (.aload_n 1, 1) := by decide +kernel
theorem dX6_canChange_34 : decode cX6_canChange 34 = .ok (.getfield 94, 3) := by decide +kernel
theorem dX6_canChange_37 : decode cX6_canChange 37 = .ok (.iload_n 2, 1) := by decide +kernel
theorem dX6_canChange_38 : decode cX6_canChange 38 = .ok (.iaload, 1) := by decide +kernel
theorem dX6_canChange_39 : decode cX6_canChange 39 = .ok (.aload_n 0, 1) := by decide +kernel
theorem dX6_canChange_40 : decode cX6_canChange 40 = .ok (.getfield 49, 3) := by decide +kernel
theorem dX6_canChange_43 : decode cX6_canChange 43 = .ok (.iadd, 1) := by decide +kernel
theorem dX6_canChange_44 : decode cX6_canChange 44 = .ok (.if_icmp .lt 7, 3) := by decide +kernel
theorem dX6_canChange_47 : decode cX6_canChange 47 = .ok (.iconst 1, 1) := by decide +kernel
theorem dX6_canChange_48 : decode cX6_canChange 48 = .ok (.goto 4, 3) := by decide +kernel
theorem dX6_canChange_51 : decode cX6_canChange 51 = .ok (.iconst 0, 1) := by decide +kernel
theorem dX6_canChange_52 : decode cX6_canChange 52 = .ok (.ireturn, 1) := by decide +kernel
theorem dX6_firstTrain_0 : decode cX6_firstTrain 0 = .ok (.iconst 0, 1) := by decide +kernel
theorem dX6_firstTrain_1 : decode cX6_firstTrain 1 = .ok (.istore_n 3, 1) := by decide +kernel
theorem dX6_firstTrain_2 : decode cX6_firstTrain 2 = .ok (.iload_n 3, 1) := by decide +kernel
theorem dX6_firstTrain_3 : decode cX6_firstTrain 3 = .ok (.aload_n 0, 1) := by decide +kernel
theorem dX6_firstTrain_4 : decode cX6_firstTrain 4 = .ok (.getfield 42, 3) := by decide +kernel
theorem dX6_firstTrain_7 : decode cX6_firstTrain 7 = .ok (.if_icmp .ge 67, 3) := by decide +kernel
theorem dX6_firstTrain_10 : decode cX6_firstTrain 10 = .ok (.aload_n 0, 1) := by decide +kernel
theorem dX6_firstTrain_11 : decode cX6_firstTrain 11 = .ok (.getfield 11, 3) := by decide +kernel
theorem dX6_firstTrain_14 : decode cX6_firstTrain 14 = .ok (.iload_n 3, 1) := by decide +kernel
theorem dX6_firstTrain_15 : decode cX6_firstTrain 15 = .ok (.aaload, 1) := by decide +kernel
theorem dX6_firstTrain_16 : decode cX6_firstTrain 16 = .ok (.getfield 124, 3) := by decide +kernel
theorem dX6_firstTrain_19 : decode cX6_firstTrain 19 = .ok (.iload_n 1, 1) := by decide +kernel
theorem dX6_firstTrain_20 : decode cX6_firstTrain 20 = .ok (.iaload, 1) := by decide +kernel
theorem dX6_firstTrain_21 : decode cX6_firstTrain 21 = .ok (.istore 4, 2) := by decide +kernel
theorem dX6_firstTrain_23 : decode cX6_firstTrain 23 = .ok (.iload 4, 2) := by decide +kernel
theorem dX6_firstTrain_25 : decode cX6_firstTrain 25 = .ok (.iconst (-1), 1) := by decide +kernel
theorem dX6_firstTrain_26 : decode cX6_firstTrain 26 = .ok (.if_icmp .eq 42, 3) := by decide +kernel
theorem dX6_firstTrain_29 : decode cX6_firstTrain 29 = .ok (.iload 4, 2) := by decide +kernel
theorem dX6_firstTrain_31 : decode cX6_firstTrain 31 = .ok (.aload_n 0, 1) := by decide +kernel
theorem dX6_firstTrain_32 : decode cX6_firstTrain 32 = .ok (.getfield 21, 3) := by decide +kernel
theorem dX6_firstTrain_35 : decode cX6_firstTrain 35 = .ok (.aload_n 0, 1) := by decide +kernel
theorem dX6_firstTrain_36 : decode cX6_firstTrain 36 = .ok (.getfield 72, 3) := by decide +kernel
theorem dX6_firstTrain_39 : decode cX6_firstTrain 39 = .ok (.iconst 1, 1) := by decide +kernel
theorem dX6_firstTrain_40 : decode cX6_firstTrain 40 = .ok (.isub, 1) := by decide +kernel
theorem dX6_firstTrain_41 : decode cX6_firstTrain 41 = .ok (.bipush 10, 2) := by decide +kernel
theorem dX6_firstTrain_43 : decode cX6_firstTrain 43 = .ok (.imul, 1) := by decide +kernel
theorem dX6_firstTrain_44 : decode cX6_firstTrain 44 = .ok (.iload_n 3, 1) := by decide +kernel
theorem dX6_firstTrain_45 : decode cX6_firstTrain 45 = .ok (.iadd, 1) := by decide +kernel
theorem dX6_firstTrain_46 : decode cX6_firstTrain 46 = .ok (.iaload, 1) := by decide +kernel
theorem dX6_firstTrain_47 : decode cX6_firstTrain 47 = .ok (.if_icmp .gt 21, 3) := by decide +kernel
theorem dX6_firstTrain_50 : decode cX6_firstTrain 50 = .ok (.aload_n 0, 1) := by decide +kernel
theorem dX6_firstTrain_51 : decode cX6_firstTrain 51 = .ok (.getfield 11, 3) := by decide +kernel
theorem dX6_firstTrain_54 : decode cX6_firstTrain 54 = .ok (.iload_n 3, 1) := by decide +kernel
theorem dX6_firstTrain_55 : decode cX6_firstTrain 55 = .ok (.aaload, 1) := by decide +kernel
theorem dX6_firstTrain_56 : decode cX6_firstTrain 56 = .ok (.getfield 91, 3) := by decide +kernel
theorem dX6_firstTrain_59 : decode cX6_firstTrain 59 = .ok (.iload 4, 2) := by decide +kernel
theorem dX6_firstTrain_61 : decode cX6_firstTrain 61 = .ok (.iaload, 1) := by decide +kernel
theorem dX6_firstTrain_62 : decode cX6_firstTrain 62 = .ok (.iload_n 2, 1) := by decide +kernel
theorem dX6_firstTrain_63 : decode cX6_firstTrain 63 = .ok (.if_icmp .lt 5, 3) := by decide +kernel
theorem dX6_firstTrain_66 : decode cX6_firstTrain 66 = .ok (.iload_n 3, 1) := by decide +kernel
theorem dX6_firstTrain_67 : decode cX6_firstTrain 67 = .ok (.ireturn, 1) := by decide +kernel
theorem dX6_firstTrain_68 : decode cX6_firstTrain 68 = .ok (.iinc 3 1, 3) := by decide +kernel
theorem dX6_firstTrain_71 : decode cX6_firstTrain 71 = .ok (.goto (-69), 3) := by decide +kernel
theorem dX6_firstTrain_74 : decode cX6_firstTrain 74 = .ok (.iconst (-1), 1) := by decide +kernel
theorem dX6_firstTrain_75 : decode cX6_firstTrain 75 = .ok (.ireturn, 1) := by decide +kernel
theorem dX6_chooseTrains_0 : decode cX6_chooseTrains 0 = .ok (.aload_n 0, 1) := by decide +kernel
theorem dX6_chooseTrains_1 : decode cX6_chooseTrains 1 = .ok (.getfield 24, 3) := by decide +kernel
theorem dX6_chooseTrains_4 : decode cX6_chooseTrains 4 = .ok (.iconst 0, 1) := by decide +kernel
theorem dX6_chooseTrains_5 : decode cX6_chooseTrains 5 = .ok (.aload_n 0, 1) := by decide +kernel
theorem dX6_chooseTrains_6 : decode cX6_chooseTrains 6 = .ok (.iload_n 1, 1) := by decide +kernel
theorem dX6_chooseTrains_7 : decode cX6_chooseTrains 7 = .ok (.iload_n 2, 1) := by decide +kernel
theorem dX6_chooseTrains_8 : decode cX6_chooseTrains 8 = .ok (.invokevirtual 118, 3) := by decide +kernel
theorem dX6_chooseTrains_11 : decode cX6_chooseTrains 11 = .ok (.iconst 0, 1) := by decide +kernel
theorem dX6_chooseTrains_12 : decode cX6_chooseTrains 12 = .ok (.invokestatic 131, 3) := by decide +kernel
theorem dX6_chooseTrains_15 : decode cX6_chooseTrains 15 = .ok (.iastore, 1) := by decide +kernel
theorem dX6_chooseTrains_16 : decode cX6_chooseTrains 16 = .ok (.aload_n 0, 1) := by decide +kernel
theorem dX6_chooseTrains_17 : decode cX6_chooseTrains 17 = .ok (.getfield 30, 3) := by decide +kernel
theorem dX6_chooseTrains_20 : decode cX6_chooseTrains 20 = .ok (.iconst 0, 1) := by decide +kernel
theorem dX6_chooseTrains_21 : decode cX6_chooseTrains 21 = .ok (.aload_n 0, 1) := by decide +kernel
theorem dX6_chooseTrains_22 : decode cX6_chooseTrains 22 = .ok (.getfield 11, 3) := by decide +kernel
theorem dX6_chooseTrains_25 : decode cX6_chooseTrains 25 = .ok (.aload_n 0, 1) := by decide +kernel
theorem dX6_chooseTrains_26 : decode cX6_chooseTrains 26 = .ok (.getfield 24, 3) := by decide +kernel
theorem dX6_chooseTrains_29 : decode cX6_chooseTrains 29 = .ok (.iconst 0, 1) := by decide +kernel
theorem dX6_chooseTrains_30 : decode cX6_chooseTrains 30 = .ok (.iaload, 1) := by decide +kernel
theorem dX6_chooseTrains_31 : decode cX6_chooseTrains 31 = .ok (.aaload, 1) := by decide +kernel
theorem dX6_chooseTrains_32 : decode cX6_chooseTrains 32 = .ok (.getfield 124, 3) := by decide +kernel
theorem dX6_chooseTrains_35 : decode cX6_chooseTrains 35 = .ok (.iload_n 1, 1) := by decide +kernel
theorem dX6_chooseTrains_36 : decode cX6_chooseTrains 36 = .ok (.iaload, 1) := by decide +kernel
theorem dX6_chooseTrains_37 : decode cX6_chooseTrains 37 = .ok (.iastore, 1) := by decide +kernel
theorem dX6_chooseTrains_38 : decode cX6_chooseTrains 38 = .ok (.iconst 1, 1) := by decide +kernel
theorem dX6_chooseTrains_39 : decode cX6_chooseTrains 39 = .ok (.istore_n 3, 1) := by decide +kernel
theorem dX6_chooseTrains_40 : decode cX6_chooseTrains 40 = .ok (.iload_n 3, 1) := by decide +kernel
theorem dX6_chooseTrains_41 : decode cX6_chooseTrains 41 = .ok (.aload_n 0, 1) := by decide +kernel
theorem dX6_chooseTrains_42 : decode cX6_chooseTrains 42 = .ok (.getfield 72, 3) := by decide +kernel
theorem dX6_chooseTrains_45 : decode cX6_chooseTrains 45 = .ok (.if_icmp .ge 14, 3) := by decide +kernel
theorem dX6_chooseTrains_48 : decode cX6_chooseTrains 48 = .ok (.aload_n 0, 1) := by decide +kernel
theorem dX6_chooseTrains_49 : decode cX6_chooseTrains 49 = .ok (.iload_n 3, 1) := by decide +kernel
theorem dX6_chooseTrains_50 : decode cX6_chooseTrains 50 = .ok (.invokevirtual 136, 3) := by decide +kernel
theorem dX6_chooseTrains_53 : decode cX6_chooseTrains 53 = .ok (.iinc 3 1, 3) := by decide +kernel
theorem dX6_chooseTrains_56 : decode cX6_chooseTrains 56 = .ok (.goto (-16), 3) := by decide +kernel
theorem dX6_chooseTrains_59 : decode cX6_chooseTrains 59 = .ok (.return_, 1) := by decide +kernel
theorem dX6_chooseTrain_0 : decode cX6_chooseTrain 0 = .ok (.iconst 0, 1) := by decide +kernel
theorem dX6_chooseTrain_1 : decode cX6_chooseTrain 1 = .ok (.istore_n 2, 1) := by decide +kernel
theorem dX6_chooseTrain_2 : decode cX6_chooseTrain 2 = .ok (.iload_n 2, 1) := by decide +kernel
theorem dX6_chooseTrain_3 : decode cX6_chooseTrain 3 = .ok (.aload_n 0, 1) := by decide +kernel
theorem dX6_chooseTrain_4 : decode cX6_chooseTrain 4 = .ok (.getfield 42, 3) := by decide +kernel
theorem dX6_chooseTrain_7 : decode cX6_chooseTrain 7 = .ok (.if_icmp .ge 84, 3) := by decide +kernel
theorem dX6_chooseTrain_10 : decode cX6_chooseTrain 10 = .ok (.aload_n 0, 1) := by decide +kernel
theorem dX6_chooseTrain_11 : decode cX6_chooseTrain 11 = .ok (.getfield 21, 3) := by decide +kernel
theorem dX6_chooseTrain_14 : decode cX6_chooseTrain 14 = .ok (.aload_n 0, 1) := by decide +kernel
theorem dX6_chooseTrain_15 : decode cX6_chooseTrain 15 = .ok (.getfield 72, 3) := by decide +kernel
theorem dX6_chooseTrain_18 : decode cX6_chooseTrain 18 = .ok (.iconst 1, 1) := by decide +kernel
theorem dX6_chooseTrain_19 : decode cX6_chooseTrain 19 = .ok (.isub, 1) := by decide +kernel
theorem dX6_chooseTrain_20 : decode cX6_chooseTrain 20 = .ok (.iload_n 1, 1) := by decide +kernel
theorem dX6_chooseTrain_21 : decode cX6_chooseTrain 21 = .ok (.isub, 1) := by decide +kernel
theorem dX6_chooseTrain_22 : decode cX6_chooseTrain 22 = .ok (.bipush 10, 2) := by decide +kernel
theorem dX6_chooseTrain_24 : decode cX6_chooseTrain 24 = .ok (.imul, 1) := by decide +kernel
theorem dX6_chooseTrain_25 : decode cX6_chooseTrain 25 = .ok (.iload_n 2, 1) := by decide +kernel
theorem dX6_chooseTrain_26 : decode cX6_chooseTrain 26 = .ok (.iadd, 1) := by decide +kernel
theorem dX6_chooseTrain_27 : decode cX6_chooseTrain 27 = .ok (.iaload, 1) := by decide +kernel
theorem dX6_chooseTrain_28 : decode cX6_chooseTrain 28 = .ok (.istore_n 3, 1) := by decide +kernel
theorem dX6_chooseTrain_29 : decode cX6_chooseTrain 29 = .ok (.aload_n 0, 1) := by decide +kernel
theorem dX6_chooseTrain_30 : decode cX6_chooseTrain 30 = .ok (.aload_n 0, 1) := by decide +kernel
theorem dX6_chooseTrain_31 : decode cX6_chooseTrain 31 = .ok (.getfield 11, 3) := by decide +kernel
theorem dX6_chooseTrain_34 : decode cX6_chooseTrain 34 = .ok (.aload_n 0, 1) := by decide +kernel
theorem dX6_chooseTrain_35 : decode cX6_chooseTrain 35 = .ok (.getfield 24, 3) := by decide +kernel
theorem dX6_chooseTrain_38 : decode cX6_chooseTrain 38 = .ok (.iload_n 1, 1) := by decide +kernel
theorem dX6_chooseTrain_39 : decode cX6_chooseTrain 39 = .ok (.iconst 1, 1) := by decide +kernel
theorem dX6_chooseTrain_40 : decode cX6_chooseTrain 40 = .ok (.isub, 1) := by decide +kernel
theorem dX6_chooseTrain_41 : decode cX6_chooseTrain 41 = .ok (.iaload, 1) := by decide +kernel
theorem dX6_chooseTrain_42 : decode cX6_chooseTrain 42 = .ok (.aaload, 1) := by decide +kernel
theorem dX6_chooseTrain_43 : decode cX6_chooseTrain 43 = .ok (.aload_n 0, 1) := by decide +kernel
theorem dX6_chooseTrain_44 : decode cX6_chooseTrain 44 = .ok (.getfield 30, 3) := by decide +kernel
theorem dX6_chooseTrain_47 : decode cX6_chooseTrain 47 = .ok (.iload_n 1, 1) := by decide +kernel
theorem dX6_chooseTrain_48 : decode cX6_chooseTrain 48 = .ok (.iconst 1, 1) := by decide +kernel
theorem dX6_chooseTrain_49 : decode cX6_chooseTrain 49 = .ok (.isub, 1) := by decide +kernel
theorem dX6_chooseTrain_50 : decode cX6_chooseTrain 50 = .ok (.iaload, 1) := by decide +kernel
theorem dX6_chooseTrain_51 : decode cX6_chooseTrain 51 = .ok (.aload_n 0, 1) := by decide +kernel
theorem dX6_chooseTrain_52 : decode cX6_chooseTrain 52 = .ok (.getfield 11, 3) := by decide +kernel
theorem dX6_chooseTrain_55 : decode cX6_chooseTrain 55 = .ok (.iload_n 2, 1) := by decide +kernel
theorem dX6_chooseTrain_56 : decode cX6_chooseTrain 56 = .ok (.aaload, 1) := by decide +kernel
theorem dX6_chooseTrain_57 : decode cX6_chooseTrain 57 = .ok (.iload_n 3, 1) := by decide +kernel
theorem dX6_chooseTrain_58 : decode cX6_chooseTrain 58 = .ok (.invokevirtual 139, 3) := by decide +kernel
theorem dX6_chooseTrain_61 : decode cX6_chooseTrain 61 = .ok (.istore 4, 2) := by decide +kernel
theorem dX6_chooseTrain_63 : decode cX6_chooseTrain 63 = .ok (.iload 4, 2) := by decide +kernel
theorem dX6_chooseTrain_65 : decode cX6_chooseTrain 65 = .ok (.iconst (-1), 1) := by decide +kernel
theorem dX6_chooseTrain_66 : decode cX6_chooseTrain 66 = .ok (.if_icmp .eq 19, 3) := by decide +kernel
theorem dX6_chooseTrain_69 : decode cX6_chooseTrain 69 = .ok (.aload_n 0, 1) := by decide +kernel
theorem dX6_chooseTrain_70 : decode cX6_chooseTrain 70 = .ok (.getfield 24, 3) := by decide +kernel
theorem dX6_chooseTrain_73 : decode cX6_chooseTrain 73 = .ok (.iload_n 1, 1) := by decide +kernel
theorem dX6_chooseTrain_74 : decode cX6_chooseTrain 74 = .ok (.iload_n 2, 1) := by decide +kernel
theorem dX6_chooseTrain_75 : decode cX6_chooseTrain 75 = .ok (.iastore, 1) := by decide +kernel
theorem dX6_chooseTrain_76 : decode cX6_chooseTrain 76 = .ok (.aload_n 0, 1) := by decide +kernel
theorem dX6_chooseTrain_77 : decode cX6_chooseTrain 77 = .ok (.getfield 30, 3) := by decide +kernel
theorem dX6_chooseTrain_80 : decode cX6_chooseTrain 80 = .ok (.iload_n 1, 1) := by decide +kernel
theorem dX6_chooseTrain_81 : decode cX6_chooseTrain 81 = .ok (.iload 4, 2) := by decide +kernel
theorem dX6_chooseTrain_83 : decode cX6_chooseTrain 83 = .ok (.iastore, 1) := by decide +kernel
theorem dX6_chooseTrain_84 : decode cX6_chooseTrain 84 = .ok (.return_, 1) := by decide +kernel
theorem dX6_chooseTrain_85 : decode cX6_chooseTrain 85 = .ok (.iinc 2 1, 3) := by decide +kernel
theorem dX6_chooseTrain_88 : decode cX6_chooseTrain 88 = .ok (.goto (-86), 3) := by decide +kernel
theorem dX6_chooseTrain_91 : decode cX6_chooseTrain 91 = .ok (.return_, 1) := by decide +kernel
theorem dX6_firstBoard_0 : decode cX6_firstBoard 0 = .ok (.iconst (-1), 1) := by decide +kernel
theorem dX6_firstBoard_1 : decode cX6_firstBoard 1 = .ok (.istore 5, 2) := by decide +kernel
theorem dX6_firstBoard_3 : decode cX6_firstBoard 3 = .ok (.iload_n 2, 1) := by decide +kernel
theorem dX6_firstBoard_4 : decode cX6_firstBoard 4 = .ok (.iconst 1, 1) := by decide +kernel
theorem dX6_firstBoard_5 : decode cX6_firstBoard 5 = .ok (.iadd, 1) := by decide +kernel
theorem dX6_firstBoard_6 : decode cX6_firstBoard 6 = .ok (.istore 6, 2) := by decide +kernel
theorem dX6_firstBoard_8 : decode cX6_firstBoard 8 = .ok (.iload 6, 2) := by decide +kernel
theorem dX6_firstBoard_10 : decode cX6_firstBoard 10 = .ok (.aload_n 1, 1) := by decide +kernel
theorem dX6_firstBoard_11 : decode cX6_firstBoard 11 = .ok (.getfield 111, 3) := by decide +kernel
theorem dX6_firstBoard_14 : decode cX6_firstBoard 14 = .ok (.if_icmp .ge 56, 3) := by decide +kernel
theorem dX6_firstBoard_17 : decode cX6_firstBoard 17 = .ok (.aload_n 0, 1) := by decide +kernel
theorem dX6_firstBoard_18 : decode cX6_firstBoard 18 = .ok (.aload_n 1, 1) := by decide +kernel
theorem dX6_firstBoard_19 : decode cX6_firstBoard 19 = .ok (.iload 6, 2) := by decide +kernel
theorem dX6_firstBoard_21 : decode cX6_firstBoard 21 = .ok (.aload_n 3, 1) := by decide +kernel
theorem dX6_firstBoard_22 : decode cX6_firstBoard 22 = .ok (.iload 4, 2) := by decide +kernel
theorem dX6_firstBoard_24 : decode cX6_firstBoard 24 = .ok (.invokevirtual 127, 3) := by decide +kernel
theorem dX6_firstBoard_27 : decode cX6_firstBoard 27 = .ok (.ifCond .eq 37, 3) := by decide +kernel
theorem dX6_firstBoard_30 : decode cX6_firstBoard 30 = .ok (.aload_n 3, 1) := by decide +kernel
theorem dX6_firstBoard_31 : decode cX6_firstBoard 31 = .ok (.getfield 124, 3) := by decide +kernel
theorem dX6_firstBoard_34 : decode cX6_firstBoard 34 = .ok (.aload_n 1, 1) := by decide +kernel
theorem dX6_firstBoard_35 : decode cX6_firstBoard 35 = .ok (.getfield 88, 3) := by decide +kernel
theorem dX6_firstBoard_38 : decode cX6_firstBoard 38 = .ok (.iload 6, 2) := by decide +kernel
theorem dX6_firstBoard_40 : decode cX6_firstBoard 40 = .ok (.iaload, 1) := by decide +kernel
theorem dX6_firstBoard_41 : decode cX6_firstBoard 41 = .ok (.iaload, 1) := by decide +kernel
theorem dX6_firstBoard_42 : decode cX6_firstBoard 42 = .ok (.istore 7, 2) := by decide +kernel
theorem dX6_firstBoard_44 : decode cX6_firstBoard 44 = .ok (.iload 5, 2) := by decide +kernel
theorem dX6_firstBoard_46 : decode cX6_firstBoard 46 = .ok (.iconst (-1), 1) := by decide +kernel
theorem dX6_firstBoard_47 : decode cX6_firstBoard 47 = .ok (.if_icmp .ne 8, 3) := by decide +kernel
theorem dX6_firstBoard_50 : decode cX6_firstBoard 50 = .ok (.iload 7, 2) := by decide +kernel
theorem dX6_firstBoard_52 : decode cX6_firstBoard 52 = .ok (.goto 10, 3) := by decide +kernel
theorem dX6_firstBoard_55 : decode cX6_firstBoard 55 = .ok (.iload 5, 2) := by decide +kernel
theorem dX6_firstBoard_57 : decode cX6_firstBoard 57 = .ok (.iload 7, 2) := by decide +kernel
theorem dX6_firstBoard_59 : decode cX6_firstBoard 59 = .ok (.invokestatic 143, 3) := by decide +kernel
theorem dX6_firstBoard_62 : decode cX6_firstBoard 62 = .ok (.istore 5, 2) := by decide +kernel
theorem dX6_firstBoard_64 : decode cX6_firstBoard 64 = .ok (.iinc 6 1, 3) := by decide +kernel
theorem dX6_firstBoard_67 : decode cX6_firstBoard 67 = .ok (.goto (-59), 3) := by decide +kernel
theorem dX6_firstBoard_70 : decode cX6_firstBoard 70 = .ok (.iload 5, 2) := by decide +kernel
theorem dX6_firstBoard_72 : decode cX6_firstBoard 72 = .ok (.ireturn, 1) := by decide +kernel
theorem dX6_chooseStations_0 : decode cX6_chooseStations 0 = .ok (.aload_n 0, 1) := by decide +kernel
theorem dX6_chooseStations_1 : decode cX6_chooseStations 1 = .ok (.getfield 72, 3) := by decide +kernel
theorem dX6_chooseStations_4 : decode cX6_chooseStations 4 = .ok (.iconst 1, 1) := by decide +kernel
theorem dX6_chooseStations_5 : decode cX6_chooseStations 5 = .ok (.isub, 1) := by decide +kernel
theorem dX6_chooseStations_6 : decode cX6_chooseStations 6 = .ok (.istore_n 2, 1) := by decide +kernel
theorem dX6_chooseStations_7 : decode cX6_chooseStations 7 = .ok (.aload_n 0, 1) := by decide +kernel
theorem dX6_chooseStations_8 : decode cX6_chooseStations 8 = .ok (.getfield 33, 3) := by decide +kernel
theorem dX6_chooseStations_11 : decode cX6_chooseStations 11 = .ok (.iload_n 2, 1) := by decide +kernel
theorem dX6_chooseStations_12 : decode cX6_chooseStations 12 = .ok (.aload_n 0, 1) := by decide +kernel
theorem dX6_chooseStations_13 : decode cX6_chooseStations 13 = .ok (.getfield 11, 3) := by decide +kernel
theorem dX6_chooseStations_16 : decode cX6_chooseStations 16 = .ok (.aload_n 0, 1) := by decide +kernel
theorem dX6_chooseStations_17 : decode cX6_chooseStations 17 = .ok (.getfield 24, 3) := by decide +kernel
theorem dX6_chooseStations_20 : decode cX6_chooseStations 20 = .ok (.iload_n 2, 1) := by decide +kernel
theorem dX6_chooseStations_21 : decode cX6_chooseStations 21 = .ok (.iaload, 1) := by decide +kernel
theorem dX6_chooseStations_22 : decode cX6_chooseStations 22 = .ok (.aaload, 1) := by decide +kernel
theorem dX6_chooseStations_23 : decode cX6_chooseStations 23 = .ok (.getfield 124, 3) := by decide +kernel
theorem dX6_chooseStations_26 : decode cX6_chooseStations 26 = .ok (.iload_n 1, 1) := by decide +kernel
theorem dX6_chooseStations_27 : decode cX6_chooseStations 27 = .ok (.iaload, 1) := by decide +kernel
theorem dX6_chooseStations_28 : decode cX6_chooseStations 28 = .ok (.iastore, 1) := by decide +kernel
theorem dX6_chooseStations_29 : decode cX6_chooseStations 29 = .ok (.aload_n 0, 1) := by decide +kernel
theorem dX6_chooseStations_30 : decode cX6_chooseStations 30 = .ok (.getfield 27, 3) := by decide +kernel
theorem dX6_chooseStations_33 : decode cX6_chooseStations 33 = .ok (.iload_n 2, 1) := by decide +kernel
theorem dX6_chooseStations_34 : decode cX6_chooseStations 34 = .ok (.aload_n 0, 1) := by decide +kernel
theorem dX6_chooseStations_35 : decode cX6_chooseStations 35 = .ok (.getfield 33, 3) := by decide +kernel
theorem dX6_chooseStations_38 : decode cX6_chooseStations 38 = .ok (.iload_n 2, 1) := by decide +kernel
theorem dX6_chooseStations_39 : decode cX6_chooseStations 39 = .ok (.iaload, 1) := by decide +kernel
theorem dX6_chooseStations_40 : decode cX6_chooseStations 40 = .ok (.iconst 1, 1) := by decide +kernel
theorem dX6_chooseStations_41 : decode cX6_chooseStations 41 = .ok (.isub, 1) := by decide +kernel
theorem dX6_chooseStations_42 : decode cX6_chooseStations 42 = .ok (.iastore, 1) := by decide +kernel
theorem dX6_chooseStations_43 : decode cX6_chooseStations 43 = .ok (.iload_n 2, 1) := by decide +kernel
theorem dX6_chooseStations_44 : decode cX6_chooseStations 44 = .ok (.iconst 1, 1) := by decide +kernel
theorem dX6_chooseStations_45 : decode cX6_chooseStations 45 = .ok (.isub, 1) := by decide +kernel
theorem dX6_chooseStations_46 : decode cX6_chooseStations 46 = .ok (.istore_n 3, 1) := by decide +kernel
theorem dX6_chooseStations_47 : decode cX6_chooseStations 47 = .ok (.iload_n 3, 1) := by decide +kernel
theorem dX6_chooseStations_48 : decode cX6_chooseStations 48 = .ok (.ifCond .le 51, 3) := by decide +kernel
theorem dX6_chooseStations_51 : decode cX6_chooseStations 51 = .ok (.aload_n 0, 1) := by decide +kernel
theorem dX6_chooseStations_52 : decode cX6_chooseStations 52 = .ok (.getfield 27, 3) := by decide +kernel
theorem dX6_chooseStations_55 : decode cX6_chooseStations 55 = .ok (.iload_n 3, 1) := by decide +kernel
theorem dX6_chooseStations_56 : decode cX6_chooseStations 56 = .ok (.aload_n 0, 1) := by decide +kernel
theorem dX6_chooseStations_57 : decode cX6_chooseStations 57 = .ok (.aload_n 0, 1) := by decide +kernel
theorem dX6_chooseStations_58 : decode cX6_chooseStations 58 = .ok (.getfield 11, 3) := by decide +kernel
theorem dX6_chooseStations_61 : decode cX6_chooseStations 61 = .ok (.aload_n 0, 1) := by decide +kernel
theorem dX6_chooseStations_62 : decode cX6_chooseStations 62 = .ok (.getfield 24, 3) := by decide +kernel
theorem dX6_chooseStations_65 : decode cX6_chooseStations 65 = .ok (.iload_n 3, 1) := by decide +kernel
theorem dX6_chooseStations_66 : decode cX6_chooseStations 66 = .ok (.iaload, 1) := by decide +kernel
theorem dX6_chooseStations_67 : decode cX6_chooseStations 67 = .ok (.aaload, 1) := by decide +kernel
theorem dX6_chooseStations_68 : decode cX6_chooseStations 68 = .ok (.aload_n 0, 1) := by decide +kernel
theorem dX6_chooseStations_69 : decode cX6_chooseStations 69 = .ok (.getfield 11, 3) := by decide +kernel
theorem dX6_chooseStations_72 : decode cX6_chooseStations 72 = .ok (.aload_n 0, 1) := by decide +kernel
theorem dX6_chooseStations_73 : decode cX6_chooseStations 73 = .ok (.getfield 24, 3) := by decide +kernel
theorem dX6_chooseStations_76 : decode cX6_chooseStations 76 = .ok (.iload_n 3, 1) := by decide +kernel
theorem dX6_chooseStations_77 : decode cX6_chooseStations 77 = .ok (.iconst 1, 1) := by decide +kernel
theorem dX6_chooseStations_78 : decode cX6_chooseStations 78 = .ok (.iadd, 1) := by decide +kernel
theorem dX6_chooseStations_79 : decode cX6_chooseStations 79 = .ok (.iaload, 1) := by decide +kernel
theorem dX6_chooseStations_80 : decode cX6_chooseStations 80 = .ok (.aaload, 1) := by decide +kernel
theorem dX6_chooseStations_81 : decode cX6_chooseStations 81 = .ok (.aload_n 0, 1) := by decide +kernel
theorem dX6_chooseStations_82 : decode cX6_chooseStations 82 = .ok (.getfield 27, 3) := by decide +kernel
theorem dX6_chooseStations_85 : decode cX6_chooseStations 85 = .ok (.iload_n 3, 1) := by decide +kernel
theorem dX6_chooseStations_86 : decode cX6_chooseStations 86 = .ok (.iconst 1, 1) := by decide +kernel
theorem dX6_chooseStations_87 : decode cX6_chooseStations 87 = .ok (.iadd, 1) := by decide +kernel
theorem dX6_chooseStations_88 : decode cX6_chooseStations 88 = .ok (.iaload, 1) := by decide +kernel
theorem dX6_chooseStations_89 : decode cX6_chooseStations 89 = .ok (.invokevirtual 146, 3) := by decide +kernel
theorem dX6_chooseStations_92 : decode cX6_chooseStations 92 = .ok (.iastore, 1) := by decide +kernel
theorem dX6_chooseStations_93 : decode cX6_chooseStations 93 = .ok (.iinc 3 (-1), 3) := by decide +kernel
theorem dX6_chooseStations_96 : decode cX6_chooseStations 96 = .ok (.goto (-49), 3) := by decide +kernel
theorem dX6_chooseStations_99 : decode cX6_chooseStations 99 = .ok (.iconst 0, 1) := by decide +kernel
theorem dX6_chooseStations_100 : decode cX6_chooseStations 100 = .ok (.istore_n 3, 1) := by decide +kernel
theorem dX6_chooseStations_101 : decode cX6_chooseStations 101 = .ok (.iload_n 3, 1) := by decide +kernel
theorem dX6_chooseStations_102 : decode cX6_chooseStations 102 = .ok (.iload_n 2, 1) := by decide +kernel
theorem dX6_chooseStations_103 : decode cX6_chooseStations 103 = .ok (.if_icmp .ge 66, 3) := by decide +kernel
theorem dX6_chooseStations_106 : decode cX6_chooseStations 106 = .ok (.aload_n 0, 1) := by decide +kernel
theorem dX6_chooseStations_107 : decode cX6_chooseStations 107 = .ok (.getfield 33, 3) := by decide +kernel
theorem dX6_chooseStations_110 : decode cX6_chooseStations 110 = .ok (.iload_n 3, 1) := by decide +kernel
theorem dX6_chooseStations_111 : decode cX6_chooseStations 111 = .ok (.aload_n 0, 1) := by decide +kernel
theorem dX6_chooseStations_112 : decode cX6_chooseStations 112 = .ok (.iload_n 3, 1) := by decide +kernel
theorem dX6_chooseStations_113 : decode cX6_chooseStations 113 = .ok (.invokevirtual 150, 3) := by decide +kernel
theorem dX6_chooseStations_116 : decode cX6_chooseStations 116 = .ok (.iastore, 1) := by decide +kernel
theorem dX6_chooseStations_117 : decode cX6_chooseStations 117 = .ok (.aload_n 0, 1) := by decide +kernel
theorem dX6_chooseStations_118 : decode cX6_chooseStations 118 = .ok (.getfield 30, 3) := by decide +kernel
theorem dX6_chooseStations_121 : decode cX6_chooseStations 121 = .ok (.iload_n 3, 1) := by decide +kernel
theorem dX6_chooseStations_122 : decode cX6_chooseStations 122 = .ok (.iconst 1, 1) := by decide +kernel
theorem dX6_chooseStations_123 : decode cX6_chooseStations 123 = .ok (.iadd, 1) := by decide +kernel
theorem dX6_chooseStations_124 : decode cX6_chooseStations 124 = .ok (.aload_n 0, 1) := by decide +kernel
theorem dX6_chooseStations_125 : decode cX6_chooseStations 125 = .ok (.getfield 11, 3) := by decide +kernel
theorem dX6_chooseStations_128 : decode cX6_chooseStations 128 = .ok (.aload_n 0, 1) := by decide +kernel
theorem dX6_chooseStations_129 : decode cX6_chooseStations 129 = .ok (.getfield 24, 3) := by decide +kernel
theorem dX6_chooseStations_132 : decode cX6_chooseStations 132 = .ok (.iload_n 3, 1) := by decide +kernel
theorem dX6_chooseStations_133 : decode cX6_chooseStations 133 = .ok (.iconst 1, 1) := by decide +kernel
theorem dX6_chooseStations_134 : decode cX6_chooseStations 134 = .ok (.iadd, 1) := by decide +kernel
theorem dX6_chooseStations_135 : decode cX6_chooseStations 135 = .ok (.iaload, 1) := by decide +kernel
theorem dX6_chooseStations_136 : decode cX6_chooseStations 136 = .ok (.aaload, 1) := by decide +kernel
theorem dX6_chooseStations_137 : decode cX6_chooseStations 137 = .ok (.getfield 124, 3) := by decide +kernel
theorem dX6_chooseStations_140 : decode cX6_chooseStations 140 = .ok (.aload_n 0, 1) := by decide +kernel
theorem dX6_chooseStations_141 : decode cX6_chooseStations 141 = .ok (.getfield 11, 3) := by decide +kernel
theorem dX6_chooseStations_144 : decode cX6_chooseStations 144 = .ok (.aload_n 0, 1) := by decide +kernel
theorem dX6_chooseStations_145 : decode cX6_chooseStations 145 = .ok (.getfield 24, 3) := by decide +kernel
theorem dX6_chooseStations_148 : decode cX6_chooseStations 148 = .ok (.iload_n 3, 1) := by decide +kernel
theorem dX6_chooseStations_149 : decode cX6_chooseStations 149 = .ok (.iaload, 1) := by decide +kernel
theorem dX6_chooseStations_150 : decode cX6_chooseStations 150 = .ok (.aaload, 1) := by decide +kernel
theorem dX6_chooseStations_151 : decode cX6_chooseStations 151 = .ok (.getfield 88, 3) := by decide +kernel
theorem dX6_chooseStations_154 : decode cX6_chooseStations 154 = .ok (.aload_n 0, 1) := by decide +kernel
theorem dX6_chooseStations_155 : decode cX6_chooseStations 155 = .ok (.getfield 33, 3) := by decide +kernel
theorem dX6_chooseStations_158 : decode cX6_chooseStations 158 = .ok (.iload_n 3, 1) := by decide +kernel
theorem dX6_chooseStations_159 : decode cX6_chooseStations 159 = .ok (.iaload, 1) := by decide +kernel
theorem dX6_chooseStations_160 : decode cX6_chooseStations 160 = .ok (.iaload, 1) := by decide +kernel
theorem dX6_chooseStations_161 : decode cX6_chooseStations 161 = .ok (.iaload, 1) := by decide +kernel
theorem dX6_chooseStations_162 : decode cX6_chooseStations 162 = .ok (.iastore, 1) := by decide +kernel
theorem dX6_chooseStations_163 : decode cX6_chooseStations 163 = .ok (.iinc 3 1, 3) := by decide +kernel
theorem dX6_chooseStations_166 : decode cX6_chooseStations 166 = .ok (.goto (-65), 3) := by decide +kernel
theorem dX6_chooseStations_169 : decode cX6_chooseStations 169 = .ok (.return_, 1) := by decide +kernel
theorem dX6_limitBefore_0 : decode cX6_limitBefore 0 = .ok (.aload_n 1, 1) := by decide +kernel
theorem dX6_limitBefore_1 : decode cX6_limitBefore 1 = .ok (.getfield 111, 3) := by decide +kernel
theorem dX6_limitBefore_4 : decode cX6_limitBefore 4 = .ok (.iconst 1, 1) := by decide +kernel
theorem dX6_limitBefore_5 : decode cX6_limitBefore 5 = .ok (.isub, 1) := by decide +kernel
theorem dX6_limitBefore_6 : decode cX6_limitBefore 6 = .ok (.istore 4, 2) := by decide +kernel
theorem dX6_limitBefore_8 : decode cX6_limitBefore 8 = .ok (.iload 4, 2) := by decide +kernel
theorem dX6_limitBefore_10 : decode cX6_limitBefore 10 = .ok (.ifCond .le 21, 3) := by decide +kernel
theorem dX6_limitBefore_13 : decode cX6_limitBefore 13 = .ok (.aload_n 0, 1) := by decide +kernel
theorem dX6_limitBefore_14 : decode cX6_limitBefore 14 = .ok (.aload_n 1, 1) := by decide +kernel
theorem dX6_limitBefore_15 : decode cX6_limitBefore 15 = .ok (.iload 4, 2) := by decide +kernel
theorem dX6_limitBefore_17 : decode cX6_limitBefore 17 = .ok (.aload_n 2, 1) := by decide +kernel
theorem dX6_limitBefore_18 : decode cX6_limitBefore 18 = .ok (.iload_n 3, 1) := by decide +kernel
theorem dX6_limitBefore_19 : decode cX6_limitBefore 19 = .ok (.invokevirtual 127, 3) := by decide +kernel
theorem dX6_limitBefore_22 : decode cX6_limitBefore 22 = .ok (.ifCond .ne 9, 3) := by decide +kernel
theorem dX6_limitBefore_25 : decode cX6_limitBefore 25 = .ok (.iinc 4 (-1), 3) := by decide +kernel
theorem dX6_limitBefore_28 : decode cX6_limitBefore 28 = .ok (.goto (-20), 3) := by decide +kernel
theorem dX6_limitBefore_31 : decode cX6_limitBefore 31 = .ok (.iload 4, 2) := by decide +kernel
theorem dX6_limitBefore_33 : decode cX6_limitBefore 33 = .ok (.iconst 1, 1) := by decide +kernel
theorem dX6_limitBefore_34 : decode cX6_limitBefore 34 = .ok (.isub, 1) := by decide +kernel
theorem dX6_limitBefore_35 : decode cX6_limitBefore 35 = .ok (.ireturn, 1) := by decide +kernel
theorem dX6_leastChange_0 : decode cX6_leastChange 0 = .ok (.aload_n 0, 1) := by decide +kernel
theorem dX6_leastChange_1 : decode cX6_leastChange 1 = .ok (.getfield 11, 3) := by decide +kernel
theorem dX6_leastChange_4 : decode cX6_leastChange 4 = .ok (.aload_n 0, 1) := by decide +kernel
theorem dX6_leastChange_5 : decode cX6_leastChange 5 = .ok (.getfield 24, 3) := by decide +kernel
theorem dX6_leastChange_8 : decode cX6_leastChange 8 = .ok (.iload_n 1, 1) := by decide +kernel
theorem dX6_leastChange_9 : decode cX6_leastChange 9 = .ok (.iaload, 1) := by decide +kernel
theorem dX6_leastChange_10 : decode cX6_leastChange 10 = .ok (.aaload, 1) := by decide +kernel
theorem dX6_leastChange_11 : decode cX6_leastChange 11 = .ok (.astore_n 2, 1) := by decide +kernel
theorem dX6_leastChange_12 : decode cX6_leastChange 12 = .ok (.iconst (-1), 1) := by decide +kernel
theorem dX6_leastChange_13 : decode cX6_leastChange 13 = .ok (.istore_n 3, 1) := by decide +kernel
theorem dX6_leastChange_14 : decode cX6_leastChange 14 = .ok (.aload_n 0, 1) := by decide +kernel
theorem dX6_leastChange_15 : decode cX6_leastChange 15 = .ok (.getfield 30, 3) := by decide +kernel
theorem dX6_leastChange_18 : decode cX6_leastChange 18 = .ok (.iload_n 1, 1) := by decide +kernel
theorem dX6_leastChange_19 : decode cX6_leastChange 19 = .ok (.iaload, 1) := by decide +kernel
theorem dX6_leastChange_20 : decode cX6_leastChange 20 = .ok (.iconst 1, 1) := by decide +kernel
theorem dX6_leastChange_21 : decode cX6_leastChange 21 = .ok (.iadd, 1) := by decide +kernel
theorem dX6_leastChange_22 : decode cX6_leastChange 22 = .ok (.istore 4, 2) := by decide +kernel
theorem dX6_leastChange_24 : decode cX6_leastChange 24 = .ok (.iload 4, 2) := by decide +kernel
theorem dX6_leastChange_26 : decode cX6_leastChange 26 = .ok (.aload_n 2, 1) := by decide +kernel
theorem dX6_leastChange_27 : decode cX6_leastChange 27 = .ok (.getfield 111, 3) := by decide +kernel
theorem dX6_leastChange_30 : decode cX6_leastChange 30 = .ok (.if_icmp .ge 64, 3) := by decide +kernel
theorem dX6_leastChange_33 : decode cX6_leastChange 33 = .ok (.aload_n 0, 1) := by decide +kernel
theorem dX6_leastChange_34 : decode cX6_leastChange 34 = .ok (.aload_n 2, 1) := by decide +kernel
theorem dX6_leastChange_35 : decode cX6_leastChange 35 = .ok (.iload 4, 2) := by decide +kernel
theorem dX6_leastChange_37 : decode cX6_leastChange 37 = .ok (.aload_n 0, 1) := by decide +kernel
theorem dX6_leastChange_38 : decode cX6_leastChange 38 = .ok (.getfield 11, 3) := by decide +kernel
theorem dX6_leastChange_41 : decode cX6_leastChange 41 = .ok (.aload_n 0, 1) := by decide +kernel
theorem dX6_leastChange_42 : decode cX6_leastChange 42 = .ok (.getfield 24, 3) := by decide +kernel
theorem dX6_leastChange_45 : decode cX6_leastChange 45 = .ok (.iload_n 1, 1) := by decide +kernel
theorem dX6_leastChange_46 : decode cX6_leastChange 46 = .ok (.iconst 1, 1) := by decide +kernel
theorem dX6_leastChange_47 : decode cX6_leastChange 47 = .ok (.iadd, 1) := by decide +kernel
theorem dX6_leastChange_48 : decode cX6_leastChange 48 = .ok (.iaload, 1) := by decide +kernel
theorem dX6_leastChange_49 : decode cX6_leastChange 49 = .ok (.aaload, 1) := by decide +kernel
theorem dX6_leastChange_50 : decode cX6_leastChange 50 = .ok (.aload_n 0, 1) := by decide +kernel
theorem dX6_leastChange_51 : decode cX6_leastChange 51 = .ok (.getfield 27, 3) := by decide +kernel
theorem dX6_leastChange_54 : decode cX6_leastChange 54 = .ok (.iload_n 1, 1) := by decide +kernel
theorem dX6_leastChange_55 : decode cX6_leastChange 55 = .ok (.iconst 1, 1) := by decide +kernel
theorem dX6_leastChange_56 : decode cX6_leastChange 56 = .ok (.iadd, 1) := by decide +kernel
theorem dX6_leastChange_57 : decode cX6_leastChange 57 = .ok (.iaload, 1) := by decide +kernel
theorem dX6_leastChange_58 : decode cX6_leastChange 58 = .ok (.invokevirtual 127, 3) := by decide +kernel
theorem dX6_leastChange_61 : decode cX6_leastChange 61 = .ok (.ifCond .eq 27, 3) := by decide +kernel
theorem dX6_leastChange_64 : decode cX6_leastChange 64 = .ok (.iload_n 3, 1) := by decide +kernel
theorem dX6_leastChange_65 : decode cX6_leastChange 65 = .ok (.iconst (-1), 1) := by decide +kernel
theorem dX6_leastChange_66 : decode cX6_leastChange 66 = .ok (.if_icmp .eq 19, 3) := by decide +kernel
theorem dX6_leastChange_69 : decode cX6_leastChange 69 = .ok (.aload_n 2, 1) := by decide +kernel
theorem dX6_leastChange_70 : decode cX6_leastChange 70 = .ok (.getfield 88, 3) := by decide +kernel
theorem dX6_leastChange_73 : decode cX6_leastChange 73 = .ok (.iload 4, 2) := by decide +kernel
theorem dX6_leastChange_75 : decode cX6_leastChange 75 = .ok (.iaload, 1) := by decide +kernel
theorem dX6_leastChange_76 : decode cX6_leastChange 76 = .ok (.aload_n 2, 1) := by decide +kernel
theorem dX6_leastChange_77 : decode cX6_leastChange 77 = .ok (.getfield 88, 3) := by decide +kernel
theorem dX6_leastChange_80 : decode cX6_leastChange 80 = .ok (.iload_n 3, 1) := by decide +kernel
theorem dX6_leastChange_81 : decode cX6_leastChange 81 = .ok (.iaload, 1) := by decide +kernel
theorem dX6_leastChange_82 : decode cX6_leastChange 82 = .ok (.if_icmp .ge 6, 3) := by decide +kernel
theorem dX6_leastChange_85 : decode cX6_leastChange 85 = .ok (.iload 4, 2) := by decide +kernel
theorem dX6_leastChange_87 : decode cX6_leastChange 87 = .ok (.istore_n 3, 1) := by decide +kernel
theorem dX6_leastChange_88 : decode cX6_leastChange 88 = .ok (.iinc 4 1, 3) := by decide +kernel
theorem dX6_leastChange_91 : decode cX6_leastChange 91 = .ok (.goto (-67), 3) := by decide +kernel
theorem dX6_leastChange_94 : decode cX6_leastChange 94 = .ok (.iload_n 3, 1) := by decide +kernel
theorem dX6_leastChange_95 : decode cX6_leastChange 95 = .ok (.iconst 0, 1) := by decide +kernel
theorem dX6_leastChange_96 : decode cX6_leastChange 96 = .ok (.invokestatic 131, 3) := by decide +kernel
theorem dX6_leastChange_99 : decode cX6_leastChange 99 = .ok (.ireturn, 1) := by decide +kernel
theorem dX6_collectMinutes_0 : decode cX6_collectMinutes 0 = .ok (.aload_n 0, 1) := by decide +kernel
theorem dX6_collectMinutes_1 : decode cX6_collectMinutes 1 = .ok (.iconst 0, 1) := by decide +kernel
theorem dX6_collectMinutes_2 : decode cX6_collectMinutes 2 = .ok (.putfield 85, 3) := by decide +kernel
theorem dX6_collectMinutes_5 : decode cX6_collectMinutes 5 = .ok (.iconst 0, 1) := by decide +kernel
theorem dX6_collectMinutes_6 : decode cX6_collectMinutes 6 = .ok (.istore_n 2, 1) := by decide +kernel
theorem dX6_collectMinutes_7 : decode cX6_collectMinutes 7 = .ok (.iload_n 2, 1) := by decide +kernel
theorem dX6_collectMinutes_8 : decode cX6_collectMinutes 8 = .ok (.aload_n 0, 1) := by decide +kernel
theorem dX6_collectMinutes_9 : decode cX6_collectMinutes 9 = .ok (.getfield 42, 3) := by decide +kernel
theorem dX6_collectMinutes_12 : decode cX6_collectMinutes 12 = .ok (.if_icmp .ge 57, 3) := by decide +kernel
theorem dX6_collectMinutes_15 : decode cX6_collectMinutes 15 = .ok (.aload_n 0, 1) := by decide +kernel
theorem dX6_collectMinutes_16 : decode cX6_collectMinutes 16 = .ok (.getfield 11, 3) := by decide +kernel
theorem dX6_collectMinutes_19 : decode cX6_collectMinutes 19 = .ok (.iload_n 2, 1) := by decide +kernel
theorem dX6_collectMinutes_20 : decode cX6_collectMinutes 20 = .ok (.aaload, 1) := by decide +kernel
theorem dX6_collectMinutes_21 : decode cX6_collectMinutes 21 = .ok (.getfield 124, 3) := by decide +kernel
theorem dX6_collectMinutes_24 : decode cX6_collectMinutes 24 = .ok (.iload_n 1, 1) := by decide +kernel
theorem dX6_collectMinutes_25 : decode cX6_collectMinutes 25 = .ok (.iaload, 1) := by decide +kernel
theorem dX6_collectMinutes_26 : decode cX6_collectMinutes 26 = .ok (.istore_n 3, 1) := by decide +kernel
theorem dX6_collectMinutes_27 : decode cX6_collectMinutes 27 = .ok (.iload_n 3, 1) := by decide +kernel
theorem dX6_collectMinutes_28 : decode cX6_collectMinutes 28 = .ok (.iconst (-1), 1) := by decide +kernel
theorem dX6_collectMinutes_29 : decode cX6_collectMinutes 29 = .ok (.if_icmp .eq 34, 3) := by decide +kernel
theorem dX6_collectMinutes_32 : decode cX6_collectMinutes 32 = .ok (.aload_n 0, 1) := by decide +kernel
theorem dX6_collectMinutes_33 : decode cX6_collectMinutes 33 = .ok (.getfield 11, 3) := by decide +kernel
theorem dX6_collectMinutes_36 : decode cX6_collectMinutes 36 = .ok (.iload_n 2, 1) := by decide +kernel
theorem dX6_collectMinutes_37 : decode cX6_collectMinutes 37 = .ok (.aaload, 1) := by decide +kernel
theorem dX6_collectMinutes_38 : decode cX6_collectMinutes 38 = .ok (.aload_n 0, 1) := by decide +kernel
theorem dX6_collectMinutes_39 : decode cX6_collectMinutes 39 = .ok (.getfield 46, 3) := by decide +kernel
theorem dX6_collectMinutes_42 : decode cX6_collectMinutes 42 = .ok (.invokevirtual 103, 3) := by decide +kernel
theorem dX6_collectMinutes_45 : decode cX6_collectMinutes 45 = .ok (.ifCond .eq 18, 3) := by decide +kernel
theorem dX6_collectMinutes_48 : decode cX6_collectMinutes 48 = .ok (.aload_n 0, 1) := by decide +kernel
theorem dX6_collectMinutes_49 : decode cX6_collectMinutes 49 = .ok (.aload_n 0, 1) := by decide +kernel
theorem dX6_collectMinutes_50 : decode cX6_collectMinutes 50 = .ok (.getfield 11, 3) := by decide +kernel
theorem dX6_collectMinutes_53 : decode cX6_collectMinutes 53 = .ok (.iload_n 2, 1) := by decide +kernel
theorem dX6_collectMinutes_54 : decode cX6_collectMinutes 54 = .ok (.aaload, 1) := by decide +kernel
theorem dX6_collectMinutes_55 : decode cX6_collectMinutes 55 = .ok (.getfield 91, 3) := by decide +kernel
theorem dX6_collectMinutes_58 : decode cX6_collectMinutes 58 = .ok (.iload_n 3, 1) := by decide +kernel
theorem dX6_collectMinutes_59 : decode cX6_collectMinutes 59 = .ok (.iaload, 1) := by decide +kernel
theorem dX6_collectMinutes_60 : decode cX6_collectMinutes 60 = .ok (.invokevirtual 154, 3) := by decide +kernel
theorem dX6_collectMinutes_63 : decode cX6_collectMinutes 63 = .ok (.iinc 2 1, 3) := by decide +kernel
theorem dX6_collectMinutes_66 : decode cX6_collectMinutes 66 = .ok (.goto (-59), 3) := by decide +kernel
theorem dX6_collectMinutes_69 : decode cX6_collectMinutes 69 = .ok (.return_, 1) := by decide +kernel
theorem dX6_insertMinute_0 : decode cX6_insertMinute 0 = .ok (.aload_n 0, 1) := by decide +kernel
theorem dX6_insertMinute_1 : decode cX6_insertMinute 1 = .ok (.getfield 85, 3) := by decide +kernel
theorem dX6_insertMinute_4 : decode cX6_insertMinute 4 = .ok (.istore_n 2, 1) := by decide +kernel
theorem dX6_insertMinute_5 : decode cX6_insertMinute 5 = .ok (.iload_n 2, 1) := by decide +kernel
theorem dX6_insertMinute_6 : decode cX6_insertMinute 6 = .ok (.ifCond .le 35, 3) := by decide +kernel
theorem dX6_insertMinute_9 : decode cX6_insertMinute 9 = .ok (.aload_n 0, 1) := by decide +kernel
theorem dX6_insertMinute_10 : decode cX6_insertMinute 10 = .ok (.getfield 36, 3) := by decide +kernel
theorem dX6_insertMinute_13 : decode cX6_insertMinute 13 = .ok (.iload_n 2, 1) := by decide +kernel
theorem dX6_insertMinute_14 : decode cX6_insertMinute 14 = .ok (.iconst 1, 1) := by decide +kernel
theorem dX6_insertMinute_15 : decode cX6_insertMinute 15 = .ok (.isub, 1) := by decide +kernel
theorem dX6_insertMinute_16 : decode cX6_insertMinute 16 = .ok (.iaload, 1) := by decide +kernel
theorem dX6_insertMinute_17 : decode cX6_insertMinute 17 = .ok (.iload_n 1, 1) := by decide +kernel
theorem dX6_insertMinute_18 : decode cX6_insertMinute 18 = .ok (.if_icmp .le 23, 3) := by decide +kernel
theorem dX6_insertMinute_21 : decode cX6_insertMinute 21 = .ok (.aload_n 0, 1) := by decide +kernel
theorem dX6_insertMinute_22 : decode cX6_insertMinute 22 = .ok (.getfield 36, 3) := by decide +kernel
theorem dX6_insertMinute_25 : decode cX6_insertMinute 25 = .ok (.iload_n 2, 1) := by decide +kernel
theorem dX6_insertMinute_26 : decode cX6_insertMinute 26 = .ok (.aload_n 0, 1) := by decide +kernel
theorem dX6_insertMinute_27 : decode cX6_insertMinute 27 = .ok (.getfield 36, 3) := by decide +kernel
theorem dX6_insertMinute_30 : decode cX6_insertMinute 30 = .ok (.iload_n 2, 1) := by decide +kernel
theorem dX6_insertMinute_31 : decode cX6_insertMinute 31 = .ok (.iconst 1, 1) := by decide +kernel
theorem dX6_insertMinute_32 : decode cX6_insertMinute 32 = .ok (.isub, 1) := by decide +kernel
theorem dX6_insertMinute_33 : decode cX6_insertMinute 33 = .ok (.iaload, 1) := by decide +kernel
theorem dX6_insertMinute_34 : decode cX6_insertMinute 34 = .ok (.iastore, 1) := by decide +kernel
theorem dX6_insertMinute_35 : decode cX6_insertMinute 35 = .ok (.iinc 2 (-1), 3) := by decide +kernel
theorem dX6_insertMinute_38 : decode cX6_insertMinute 38 = .ok (.goto (-33), 3) := by decide +kernel
theorem dX6_insertMinute_41 : decode cX6_insertMinute 41 = .ok (.aload_n 0, 1) := by decide +kernel
theorem dX6_insertMinute_42 : decode cX6_insertMinute 42 = .ok (.getfield 36, 3) := by decide +kernel
theorem dX6_insertMinute_45 : decode cX6_insertMinute 45 = .ok (.iload_n 2, 1) := by decide +kernel
theorem dX6_insertMinute_46 : decode cX6_insertMinute 46 = .ok (.iload_n 1, 1) := by decide +kernel
theorem dX6_insertMinute_47 : decode cX6_insertMinute 47 = .ok (.iastore, 1) := by decide +kernel
theorem dX6_insertMinute_48 : decode cX6_insertMinute 48 = .ok (.aload_n 0, 1) := by decide +kernel
theorem dX6_insertMinute_49 : decode cX6_insertMinute 49 = .ok (.dup, 1) := by decide +kernel
theorem dX6_insertMinute_50 : decode cX6_insertMinute 50 = .ok (.getfield 85, 3) := by decide +kernel
theorem dX6_insertMinute_53 : decode cX6_insertMinute 53 = .ok (.iconst 1, 1) := by decide +kernel
theorem dX6_insertMinute_54 : decode cX6_insertMinute 54 = .ok (.iadd, 1) := by decide +kernel
theorem dX6_insertMinute_55 : decode cX6_insertMinute 55 = .ok (.putfield 85, 3) := by decide +kernel
theorem dX6_insertMinute_58 : decode cX6_insertMinute 58 = .ok (.return_, 1) := by decide +kernel
theorem dX7_init_0 : decode cX7_init 0 = .ok (.aload_n 0, 1) := by decide +kernel
theorem dX7_init_1 : decode cX7_init 1 = .ok (.invokespecial 3, 3) := by decide +kernel
theorem dX7_init_4 : decode cX7_init 4 = .ok (.aload_n 0, 1) := by decide +kernel
theorem dX7_init_5 : decode cX7_init 5 = .ok (.bipush 10, 2) := by decide +kernel
theorem dX7_init_7 : decode cX7_init 7 = .ok (.anewarray 9, 3) := by decide +kernel
theorem dX7_init_10 : decode cX7_init 10 = .ok (.putfield 11, 3) := by decide +kernel
theorem dX7_init_13 : decode cX7_init 13 = .ok (.aload_n 0, 1) := by decide +kernel
theorem dX7_init_14 : decode cX7_init 14 = .ok (.new 15, 3) := by decide +kernel
theorem dX7_init_17 : decode cX7_init 17 = .ok (.dup, 1) := by decide +kernel
theorem dX7_init_18 : decode cX7_init 18 = .ok (.invokespecial 17, 3) := by decide +kernel
theorem dX7_init_21 : decode cX7_init 21 = .ok (.putfield 18, 3) := by decide +kernel
theorem dX7_init_24 : decode cX7_init 24 = .ok (.aload_n 0, 1) := by decide +kernel
theorem dX7_init_25 : decode cX7_init 25 = .ok (.new 22, 3) := by decide +kernel
theorem dX7_init_28 : decode cX7_init 28 = .ok (.dup, 1) := by decide +kernel
theorem dX7_init_29 : decode cX7_init 29 = .ok (.invokespecial 24, 3) := by decide +kernel
theorem dX7_init_32 : decode cX7_init 32 = .ok (.putfield 25, 3) := by decide +kernel
theorem dX7_init_35 : decode cX7_init 35 = .ok (.aload_n 0, 1) := by decide +kernel
theorem dX7_init_36 : decode cX7_init 36 = .ok (.new 29, 3) := by decide +kernel
theorem dX7_init_39 : decode cX7_init 39 = .ok (.dup, 1) := by decide +kernel
theorem dX7_init_40 : decode cX7_init 40 = .ok (.invokespecial 31, 3) := by decide +kernel
theorem dX7_init_43 : decode cX7_init 43 = .ok (.putfield 32, 3) := by decide +kernel
theorem dX7_init_46 : decode cX7_init 46 = .ok (.aload_n 0, 1) := by decide +kernel
theorem dX7_init_47 : decode cX7_init 47 = .ok (.iconst 5, 1) := by decide +kernel
theorem dX7_init_48 : decode cX7_init 48 = .ok (.putfield 36, 3) := by decide +kernel
theorem dX7_init_51 : decode cX7_init 51 = .ok (.iconst 0, 1) := by decide +kernel
theorem dX7_init_52 : decode cX7_init 52 = .ok (.istore_n 1, 1) := by decide +kernel
theorem dX7_init_53 : decode cX7_init 53 = .ok (.iload_n 1, 1) := by decide +kernel
theorem dX7_init_54 : decode cX7_init 54 = .ok (.bipush 10, 2) := by decide +kernel
theorem dX7_init_56 : decode cX7_init 56 = .ok (.if_icmp .ge 22, 3) := by decide +kernel
theorem dX7_init_59 : decode cX7_init 59 = .ok (.aload_n 0, 1) := by decide +kernel
theorem dX7_init_60 : decode cX7_init 60 = .ok (.getfield 11, 3) := by decide +kernel
theorem dX7_init_63 : decode cX7_init 63 = .ok (.iload_n 1, 1) := by decide +kernel
theorem dX7_init_64 : decode cX7_init 64 = .ok (.new 9, 3) := by decide +kernel
theorem dX7_init_67 : decode cX7_init 67 = .ok (.dup, 1) := by decide +kernel
theorem dX7_init_68 : decode cX7_init 68 = .ok (.invokespecial 40, 3) := by decide +kernel
theorem dX7_init_71 : decode cX7_init 71 = .ok (.aastore, 1) := by decide +kernel
theorem dX7_init_72 : decode cX7_init 72 = .ok (.iinc 1 1, 3) := by decide +kernel
theorem dX7_init_75 : decode cX7_init 75 = .ok (.goto (-22), 3) := by decide +kernel
theorem dX7_init_78 : decode cX7_init 78 = .ok (.return_, 1) := by decide +kernel
theorem dX7_train_0 : decode cX7_train 0 = .ok (.iload_n 1, 1) := by decide +kernel
theorem dX7_train_1 : decode cX7_train 1 = .ok (.invokestatic 41, 3) := by decide +kernel
theorem dX7_train_4 : decode cX7_train 4 = .ok (.ifCond .eq 12, 3) := by decide +kernel
theorem dX7_train_7 : decode cX7_train 7 = .ok (.aload_n 0, 1) := by decide +kernel
theorem dX7_train_8 : decode cX7_train 8 = .ok (.getfield 45, 3) := by decide +kernel
theorem dX7_train_11 : decode cX7_train 11 = .ok (.bipush 10, 2) := by decide +kernel
theorem dX7_train_13 : decode cX7_train 13 = .ok (.if_icmp .lt 5, 3) := by decide +kernel
theorem dX7_train_16 : decode cX7_train 16 = .ok (.iconst (-1), 1) := by decide +kernel
theorem dX7_train_17 : decode cX7_train 17 = .ok (.ireturn, 1) := by decide +kernel
theorem dX7_train_18 : decode cX7_train 18 = .ok (.aload_n 0, 1) := by decide +kernel
theorem dX7_train_19 : decode cX7_train 19 = .ok (.getfield 11, 3) := by decide +kernel
theorem dX7_train_22 : decode cX7_train 22 = .ok (.aload_n 0, 1) := by decide +kernel
theorem dX7_train_23 : decode cX7_train 23 = .ok (.getfield 45, 3) := by decide +kernel
theorem dX7_train_26 : decode cX7_train 26 = .ok (.aaload, 1) := by decide +kernel
theorem dX7_train_27 : decode cX7_train 27 = .ok (.iload_n 1, 1) := by decide +kernel
theorem dX7_train_28 : decode cX7_train 28 = .ok (.putfield 48, 3) := by decide +kernel
theorem dX7_train_31 : decode cX7_train 31 = .ok (.aload_n 0, 1) := by decide +kernel
theorem dX7_train_32 : decode cX7_train 32 = .ok (.dup, 1) := by decide +kernel
theorem dX7_train_33 : decode cX7_train 33 = .ok (.getfield 45, 3) := by decide +kernel
theorem dX7_train_36 : decode cX7_train 36 = .ok (.iconst 1, 1) := by decide +kernel
theorem dX7_train_37 : decode cX7_train 37 = .ok (.iadd, 1) := by decide +kernel
theorem dX7_train_38 : decode cX7_train 38 = .ok (.putfield 45, 3) := by decide +kernel
theorem dX7_train_41 : decode cX7_train 41 = .ok (.aload_n 0, 1) := by decide +kernel
theorem dX7_train_42 : decode cX7_train 42 = .ok (.getfield 45, 3) := by decide +kernel
theorem dX7_train_45 : decode cX7_train 45 = .ok (.iconst 1, 1) := by decide +kernel
theorem dX7_train_46 : decode cX7_train 46 = .ok (.isub, 1) := by decide +kernel
theorem dX7_train_47 : decode cX7_train 47 = .ok (.ireturn, 1) := by decide +kernel
theorem dX7_stop_0 : decode cX7_stop 0 = .ok (.aload_n 0, 1) := by decide +kernel
theorem dX7_stop_1 : decode cX7_stop 1 = .ok (.iload_n 1, 1) := by decide +kernel
theorem dX7_stop_2 : decode cX7_stop 2 = .ok (.invokevirtual 51, 3) := by decide +kernel
theorem dX7_stop_5 : decode cX7_stop 5 = .ok (.astore 5, 2) := by decide +kernel
theorem dX7_stop_7 : decode cX7_stop 7 = .ok (.aload 5, 2) := by decide +kernel
theorem dX7_stop_9 : decode cX7_stop 9 = .ok (.ifnull 22, 3) := by decide +kernel
theorem dX7_stop_12 : decode cX7_stop 12 = .ok (.iload_n 2, 1) := by decide +kernel
theorem dX7_stop_13 : decode cX7_stop 13 = .ok (.invokestatic 55, 3) := by decide +kernel
theorem dX7_stop_16 : decode cX7_stop 16 = .ok (.ifCond .eq 15, 3) := by decide +kernel
theorem dX7_stop_19 : decode cX7_stop 19 = .ok (.aload 5, 2) := by decide +kernel
theorem dX7_stop_21 : decode cX7_stop 21 = .ok (.iload_n 2, 1) := by decide +kernel
theorem dX7_stop_22 : decode cX7_stop 22 = .ok (.iload_n 3, 1) := by decide +kernel
theorem dX7_stop_23 : decode cX7_stop 23 = .ok (.iload 4, 2) := by decide +kernel
theorem dX7_stop_25 : decode cX7_stop 25 = .ok (.invokevirtual 58, 3) := by decide +kernel
theorem dX7_stop_28 : decode cX7_stop 28 = .ok (.ifCond .ne 5, 3) := by decide +kernel
theorem dX7_stop_31 : decode cX7_stop 31 = .ok (.iconst (-1), 1) := by decide +kernel
theorem dX7_stop_32 : decode cX7_stop 32 = .ok (.ireturn, 1) := by decide +kernel
theorem dX7_stop_33 : decode cX7_stop 33 = .ok (.aload 5, 2) := by decide +kernel
theorem dX7_stop_35 : decode cX7_stop 35 = .ok (.iload_n 2, 1) := by decide +kernel
theorem dX7_stop_36 : decode cX7_stop 36 = .ok (.iload_n 3, 1) := by decide +kernel
theorem dX7_stop_37 : decode cX7_stop 37 = .ok (.iload 4, 2) := by decide +kernel
theorem dX7_stop_39 : decode cX7_stop 39 = .ok (.invokevirtual 62, 3) := by decide +kernel
theorem dX7_stop_42 : decode cX7_stop 42 = .ok (.aload 5, 2) := by decide +kernel
theorem dX7_stop_44 : decode cX7_stop 44 = .ok (.getfield 66, 3) := by decide +kernel
theorem dX7_stop_47 : decode cX7_stop 47 = .ok (.ireturn, 1) := by decide +kernel
theorem dX7_days_0 : decode cX7_days 0 = .ok (.aload_n 0, 1) := by decide +kernel
theorem dX7_days_1 : decode cX7_days 1 = .ok (.iload_n 1, 1) := by decide +kernel
theorem dX7_days_2 : decode cX7_days 2 = .ok (.invokevirtual 51, 3) := by decide +kernel
theorem dX7_days_5 : decode cX7_days 5 = .ok (.astore_n 3, 1) := by decide +kernel
theorem dX7_days_6 : decode cX7_days 6 = .ok (.aload_n 3, 1) := by decide +kernel
theorem dX7_days_7 : decode cX7_days 7 = .ok (.ifnull 10, 3) := by decide +kernel
theorem dX7_days_10 : decode cX7_days 10 = .ok (.iload_n 2, 1) := by decide +kernel
theorem dX7_days_11 : decode cX7_days 11 = .ok (.invokestatic 41, 3) := by decide +kernel
theorem dX7_days_14 : decode cX7_days 14 = .ok (.ifCond .ne 5, 3) := by decide +kernel
theorem dX7_days_17 : decode cX7_days 17 = .ok (.iconst 0, 1) := by decide +kernel
theorem dX7_days_18 : decode cX7_days 18 = .ok (.ireturn, 1) := by decide +kernel
theorem dX7_days_19 : decode cX7_days 19 = .ok (.aload_n 3, 1) := by decide +kernel
theorem dX7_days_20 : decode cX7_days 20 = .ok (.iload_n 2, 1) := by decide +kernel
theorem dX7_days_21 : decode cX7_days 21 = .ok (.putfield 48, 3) := by decide +kernel
theorem dX7_days_24 : decode cX7_days 24 = .ok (.iconst 1, 1) := by decide +kernel
theorem dX7_days_25 : decode cX7_days 25 = .ok (.ireturn, 1) := by decide +kernel
theorem dX7_cut_0 : decode cX7_cut 0 = .ok (.aload_n 0, 1) := by decide +kernel
theorem dX7_cut_1 : decode cX7_cut 1 = .ok (.iload_n 1, 1) := by decide +kernel
theorem dX7_cut_2 : decode cX7_cut 2 = .ok (.invokevirtual 51, 3) := by decide +kernel
theorem dX7_cut_5 : decode cX7_cut 5 = .ok (.astore_n 2, 1) := by decide +kernel
theorem dX7_cut_6 : decode cX7_cut 6 = .ok (.aload_n 2, 1) := by decide +kernel
theorem dX7_cut_7 : decode cX7_cut 7 = .ok (.ifnull 10, 3) := by decide +kernel
theorem dX7_cut_10 : decode cX7_cut 10 = .ok (.aload_n 2, 1) := by decide +kernel
theorem dX7_cut_11 : decode cX7_cut 11 = .ok (.getfield 66, 3) := by decide +kernel
theorem dX7_cut_14 : decode cX7_cut 14 = .ok (.ifCond .ne 5, 3) := by decide +kernel
theorem dX7_cut_17 : decode cX7_cut 17 = .ok (.iconst 0, 1) := by decide +kernel
theorem dX7_cut_18 : decode cX7_cut 18 = .ok (.ireturn, 1) := by decide +kernel
theorem dX7_cut_19 : decode cX7_cut 19 = .ok (.aload_n 2, 1) := by decide +kernel
theorem dX7_cut_20 : decode cX7_cut 20 = .ok (.invokevirtual 69, 3) := by decide +kernel
theorem dX7_cut_23 : decode cX7_cut 23 = .ok (.iconst 1, 1) := by decide +kernel
theorem dX7_cut_24 : decode cX7_cut 24 = .ok (.ireturn, 1) := by decide +kernel
theorem dX7_shift_0 : decode cX7_shift 0 = .ok (.aload_n 0, 1) := by decide +kernel
theorem dX7_shift_1 : decode cX7_shift 1 = .ok (.iload_n 1, 1) := by decide +kernel
theorem dX7_shift_2 : decode cX7_shift 2 = .ok (.invokevirtual 51, 3) := by decide +kernel
theorem dX7_shift_5 : decode cX7_shift 5 = .ok (.astore_n 3, 1) := by decide +kernel
theorem dX7_shift_6 : decode cX7_shift 6 = .ok (.aload_n 3, 1) := by decide +kernel
theorem dX7_shift_7 : decode cX7_shift 7 = .ok (.ifnull 11, 3) := by decide +kernel
theorem dX7_shift_10 : decode cX7_shift 10 = .ok (.aload_n 3, 1) := by decide +kernel
theorem dX7_shift_11 : decode cX7_shift 11 = .ok (.iload_n 2, 1) := by decide +kernel
theorem dX7_shift_12 : decode cX7_shift 12 = .ok (.invokevirtual 72, 3) := by decide +kernel
theorem dX7_shift_15 : decode cX7_shift 15 = .ok (.ifCond .ne 5, 3) := by decide +kernel
theorem dX7_shift_18 : decode cX7_shift 18 = .ok (.iconst 0, 1) := by decide +kernel
theorem dX7_shift_19 : decode cX7_shift 19 = .ok (.ireturn, 1) := by decide +kernel
theorem dX7_shift_20 : decode cX7_shift 20 = .ok (.aload_n 3, 1) := by decide +kernel
theorem dX7_shift_21 : decode cX7_shift 21 = .ok (.iload_n 2, 1) := by decide +kernel
theorem dX7_shift_22 : decode cX7_shift 22 = .ok (.invokevirtual 75, 3) := by decide +kernel
theorem dX7_shift_25 : decode cX7_shift 25 = .ok (.iconst 1, 1) := by decide +kernel
theorem dX7_shift_26 : decode cX7_shift 26 = .ok (.ireturn, 1) := by decide +kernel
theorem dX7_sign_0 : decode cX7_sign 0 = .ok (.iload_n 1, 1) := by decide +kernel
theorem dX7_sign_1 : decode cX7_sign 1 = .ok (.bipush 7, 2) := by decide +kernel
theorem dX7_sign_3 : decode cX7_sign 3 = .ok (.if_icmp .lt 19, 3) := by decide +kernel
theorem dX7_sign_6 : decode cX7_sign 6 = .ok (.iload_n 1, 1) := by decide +kernel
theorem dX7_sign_7 : decode cX7_sign 7 = .ok (.bipush 13, 2) := by decide +kernel
theorem dX7_sign_9 : decode cX7_sign 9 = .ok (.if_icmp .ge 13, 3) := by decide +kernel
theorem dX7_sign_12 : decode cX7_sign 12 = .ok (.iload_n 2, 1) := by decide +kernel
theorem dX7_sign_13 : decode cX7_sign 13 = .ok (.ifCond .lt 9, 3) := by decide +kernel
theorem dX7_sign_16 : decode cX7_sign 16 = .ok (.iload_n 2, 1) := by decide +kernel
theorem dX7_sign_17 : decode cX7_sign 17 = .ok (.bipush 127, 2) := by decide +kernel
theorem dX7_sign_19 : decode cX7_sign 19 = .ok (.if_icmp .le 5, 3) := by decide +kernel
theorem dX7_sign_22 : decode cX7_sign 22 = .ok (.iconst 0, 1) := by decide +kernel
theorem dX7_sign_23 : decode cX7_sign 23 = .ok (.ireturn, 1) := by decide +kernel
theorem dX7_sign_24 : decode cX7_sign 24 = .ok (.aload_n 0, 1) := by decide +kernel
theorem dX7_sign_25 : decode cX7_sign 25 = .ok (.getfield 18, 3) := by decide +kernel
theorem dX7_sign_28 : decode cX7_sign 28 = .ok (.iload_n 1, 1) := by decide +kernel
theorem dX7_sign_29 : decode cX7_sign 29 = .ok (.bipush 7, 2) := by decide +kernel
theorem dX7_sign_31 : decode cX7_sign 31 = .ok (.isub, 1) := by decide +kernel
theorem dX7_sign_32 : decode cX7_sign 32 = .ok (.iload_n 2, 1) := by decide +kernel
theorem dX7_sign_33 : decode cX7_sign 33 = .ok (.invokevirtual 79, 3) := by decide +kernel
theorem dX7_sign_36 : decode cX7_sign 36 = .ok (.iconst 1, 1) := by decide +kernel
theorem dX7_sign_37 : decode cX7_sign 37 = .ok (.ireturn, 1) := by decide +kernel
theorem dX7_change_0 : decode cX7_change 0 = .ok (.iload_n 1, 1) := by decide +kernel
theorem dX7_change_1 : decode cX7_change 1 = .ok (.ifCond .lt 9, 3) := by decide +kernel
theorem dX7_change_4 : decode cX7_change 4 = .ok (.iload_n 1, 1) := by decide +kernel
theorem dX7_change_5 : decode cX7_change 5 = .ok (.bipush 60, 2) := by decide +kernel
theorem dX7_change_7 : decode cX7_change 7 = .ok (.if_icmp .le 5, 3) := by decide +kernel
theorem dX7_change_10 : decode cX7_change 10 = .ok (.iconst 0, 1) := by decide +kernel
theorem dX7_change_11 : decode cX7_change 11 = .ok (.ireturn, 1) := by decide +kernel
theorem dX7_change_12 : decode cX7_change 12 = .ok (.aload_n 0, 1) := by decide +kernel
theorem dX7_change_13 : decode cX7_change 13 = .ok (.iload_n 1, 1) := by decide +kernel
theorem dX7_change_14 : decode cX7_change 14 = .ok (.putfield 36, 3) := by decide +kernel
theorem dX7_change_17 : decode cX7_change 17 = .ok (.iconst 1, 1) := by decide +kernel
theorem dX7_change_18 : decode cX7_change 18 = .ok (.ireturn, 1) := by decide +kernel
theorem dX7_about_0 : decode cX7_about 0 = .ok (.iload_n 1, 1) := by decide +kernel
theorem dX7_about_1 : decode cX7_about 1 = .ok (.bipush 100, 2) := by decide +kernel
theorem dX7_about_3 : decode cX7_about 3 = .ok (.if_icmp .ge 9, 3) := by decide +kernel
theorem dX7_about_6 : decode cX7_about 6 = .ok (.aload_n 0, 1) := by decide +kernel
theorem dX7_about_7 : decode cX7_about 7 = .ok (.iload_n 1, 1) := by decide +kernel
theorem dX7_about_8 : decode cX7_about 8 = .ok (.invokevirtual 83, 3) := by decide +kernel
theorem dX7_about_11 : decode cX7_about 11 = .ok (.ireturn, 1) := by decide +kernel
theorem dX7_about_12 : decode cX7_about 12 = .ok (.aload_n 0, 1) := by decide +kernel
theorem dX7_about_13 : decode cX7_about 13 = .ok (.iload_n 1, 1) := by decide +kernel
theorem dX7_about_14 : decode cX7_about 14 = .ok (.bipush 100, 2) := by decide +kernel
theorem dX7_about_16 : decode cX7_about 16 = .ok (.idiv, 1) := by decide +kernel
theorem dX7_about_17 : decode cX7_about 17 = .ok (.iconst 1, 1) := by decide +kernel
theorem dX7_about_18 : decode cX7_about 18 = .ok (.isub, 1) := by decide +kernel
theorem dX7_about_19 : decode cX7_about 19 = .ok (.invokevirtual 51, 3) := by decide +kernel
theorem dX7_about_22 : decode cX7_about 22 = .ok (.astore_n 2, 1) := by decide +kernel
theorem dX7_about_23 : decode cX7_about 23 = .ok (.aload_n 2, 1) := by decide +kernel
theorem dX7_about_24 : decode cX7_about 24 = .ok (.ifnonnull 7, 3) := by decide +kernel
theorem dX7_about_27 : decode cX7_about 27 = .ok (.iconst (-1), 1) := by decide +kernel
theorem dX7_about_28 : decode cX7_about 28 = .ok (.goto 11, 3) := by decide +kernel
theorem dX7_about_31 : decode cX7_about 31 = .ok (.aload_n 2, 1) := by decide +kernel
theorem dX7_about_32 : decode cX7_about 32 = .ok (.iload_n 1, 1) := by decide +kernel
theorem dX7_about_33 : decode cX7_about 33 = .ok (.bipush 100, 2) := by decide +kernel
theorem dX7_about_35 : decode cX7_about 35 = .ok (.irem, 1) := by decide +kernel
theorem dX7_about_36 : decode cX7_about 36 = .ok (.invokevirtual 87, 3) := by decide +kernel
theorem dX7_about_39 : decode cX7_about 39 = .ok (.ireturn, 1) := by decide +kernel
theorem dX7_signs_0 : decode cX7_signs 0 = .ok (.aload_n 0, 1) := by decide +kernel
theorem dX7_signs_1 : decode cX7_signs 1 = .ok (.iload_n 1, 1) := by decide +kernel
theorem dX7_signs_2 : decode cX7_signs 2 = .ok (.invokevirtual 51, 3) := by decide +kernel
theorem dX7_signs_5 : decode cX7_signs 5 = .ok (.astore_n 3, 1) := by decide +kernel
theorem dX7_signs_6 : decode cX7_signs 6 = .ok (.aload_n 3, 1) := by decide +kernel
theorem dX7_signs_7 : decode cX7_signs 7 = .ok (.ifnull 12, 3) := by decide +kernel
theorem dX7_signs_10 : decode cX7_signs 10 = .ok (.iload_n 2, 1) := by decide +kernel
theorem dX7_signs_11 : decode cX7_signs 11 = .ok (.ifCond .lt 8, 3) := by decide +kernel
theorem dX7_signs_14 : decode cX7_signs 14 = .ok (.iload_n 2, 1) := by decide +kernel
theorem dX7_signs_15 : decode cX7_signs 15 = .ok (.iconst 1, 1) := by decide +kernel
theorem dX7_signs_16 : decode cX7_signs 16 = .ok (.if_icmp .le 5, 3) := by decide +kernel
theorem dX7_signs_19 : decode cX7_signs 19 = .ok (.iconst (-1), 1) := by decide +kernel
theorem dX7_signs_20 : decode cX7_signs 20 = .ok (.ireturn, 1) := by decide +kernel
theorem dX7_signs_21 : decode cX7_signs 21 = .ok (.aload_n 0, 1) := by decide +kernel
theorem dX7_signs_22 : decode cX7_signs 22 = .ok (.getfield 18, 3) := by decide +kernel
theorem dX7_signs_25 : decode cX7_signs 25 = .ok (.aload_n 3, 1) := by decide +kernel
theorem dX7_signs_26 : decode cX7_signs 26 = .ok (.getfield 48, 3) := by decide +kernel
theorem dX7_signs_29 : decode cX7_signs 29 = .ok (.invokevirtual 90, 3) := by decide +kernel
theorem dX7_signs_32 : decode cX7_signs 32 = .ok (.istore 4, 2) := by decide +kernel
theorem dX7_signs_34 : decode cX7_signs 34 = .ok (.iload_n 2, 1) := by decide +kernel
theorem dX7_signs_35 : decode cX7_signs 35 = .ok (.ifCond .ne 11, 3) := by decide +kernel
theorem dX7_signs_38 : decode cX7_signs 38 = .ok (.iload 4, 2) := by decide +kernel
theorem dX7_signs_40 : decode cX7_signs 40 = .ok (.invokestatic 93, 3) := by decide +kernel
theorem dX7_signs_43 : decode cX7_signs 43 = .ok (.goto 5, 3) := by decide +kernel
theorem dX7_signs_46 : decode cX7_signs 46 = .ok (.iload 4, 2) := by decide +kernel
theorem dX7_signs_48 : decode cX7_signs 48 = .ok (.ireturn, 1) := by decide +kernel
theorem dX7_table_0 : decode cX7_table 0 = .ok (.aload_n 0, 1) := by decide +kernel
theorem dX7_table_1 : decode cX7_table 1 = .ok (.iload_n 1, 1) := by decide +kernel
theorem dX7_table_2 : decode cX7_table 2 = .ok (.invokevirtual 98, 3) := by decide +kernel
theorem dX7_table_5 : decode cX7_table 5 = .ok (.ifCond .ne 5, 3) := by decide +kernel
theorem dX7_table_8 : decode cX7_table 8 = .ok (.iconst (-1), 1) := by decide +kernel
theorem dX7_table_9 : decode cX7_table 9 = .ok (.ireturn, 1) := by decide +kernel
theorem dX7_table_10 : decode cX7_table 10 = .ok (.aload_n 0, 1) := by decide +kernel
theorem dX7_table_11 : decode cX7_table 11 = .ok (.getfield 25, 3) := by decide +kernel
theorem dX7_table_14 : decode cX7_table 14 = .ok (.aload_n 0, 1) := by decide +kernel
theorem dX7_table_15 : decode cX7_table 15 = .ok (.getfield 11, 3) := by decide +kernel
theorem dX7_table_18 : decode cX7_table 18 = .ok (.iload_n 1, 1) := by decide +kernel
theorem dX7_table_19 : decode cX7_table 19 = .ok (.invokevirtual 101, 3) := by decide +kernel
theorem dX7_table_22 : decode cX7_table 22 = .ok (.aload_n 0, 1) := by decide +kernel
theorem dX7_table_23 : decode cX7_table 23 = .ok (.getfield 25, 3) := by decide +kernel
theorem dX7_table_26 : decode cX7_table 26 = .ok (.invokevirtual 105, 3) := by decide +kernel
theorem dX7_table_29 : decode cX7_table 29 = .ok (.ireturn, 1) := by decide +kernel
theorem dX7_row_0 : decode cX7_row 0 = .ok (.aload_n 0, 1) := by decide +kernel
theorem dX7_row_1 : decode cX7_row 1 = .ok (.getfield 25, 3) := by decide +kernel
theorem dX7_row_4 : decode cX7_row 4 = .ok (.iload_n 1, 1) := by decide +kernel
theorem dX7_row_5 : decode cX7_row 5 = .ok (.invokevirtual 109, 3) := by decide +kernel
theorem dX7_row_8 : decode cX7_row 8 = .ok (.ifCond .eq 14, 3) := by decide +kernel
theorem dX7_row_11 : decode cX7_row 11 = .ok (.aload_n 0, 1) := by decide +kernel
theorem dX7_row_12 : decode cX7_row 12 = .ok (.getfield 25, 3) := by decide +kernel
theorem dX7_row_15 : decode cX7_row 15 = .ok (.iload_n 1, 1) := by decide +kernel
theorem dX7_row_16 : decode cX7_row 16 = .ok (.invokevirtual 112, 3) := by decide +kernel
theorem dX7_row_19 : decode cX7_row 19 = .ok (.goto 4, 3) := by decide +kernel
theorem dX7_row_22 : decode cX7_row 22 = .ok (.iconst (-1), 1) := by decide +kernel
theorem dX7_row_23 : decode cX7_row 23 = .ok (.ireturn, 1) := by decide +kernel
theorem dX7_column_0 : decode cX7_column 0 = .ok (.aload_n 0, 1) := by decide +kernel
theorem dX7_column_1 : decode cX7_column 1 = .ok (.getfield 25, 3) := by decide +kernel
theorem dX7_column_4 : decode cX7_column 4 = .ok (.iload_n 1, 1) := by decide +kernel
theorem dX7_column_5 : decode cX7_column 5 = .ok (.invokevirtual 115, 3) := by decide +kernel
theorem dX7_column_8 : decode cX7_column 8 = .ok (.ifCond .eq 14, 3) := by decide +kernel
theorem dX7_column_11 : decode cX7_column 11 = .ok (.aload_n 0, 1) := by decide +kernel
theorem dX7_column_12 : decode cX7_column 12 = .ok (.getfield 25, 3) := by decide +kernel
theorem dX7_column_15 : decode cX7_column 15 = .ok (.iload_n 1, 1) := by decide +kernel
theorem dX7_column_16 : decode cX7_column 16 = .ok (.invokevirtual 118, 3) := by decide +kernel
theorem dX7_column_19 : decode cX7_column 19 = .ok (.goto 4, 3) := by decide +kernel
theorem dX7_column_22 : decode cX7_column 22 = .ok (.iconst (-1), 1) := by decide +kernel
theorem dX7_column_23 : decode cX7_column 23 = .ok (.ireturn, 1) := by decide +kernel
theorem dX7_cell_0 : decode cX7_cell 0 = .ok (.aload_n 0, 1) := by decide +kernel
theorem dX7_cell_1 : decode cX7_cell 1 = .ok (.getfield 25, 3) := by decide +kernel
theorem dX7_cell_4 : decode cX7_cell 4 = .ok (.iload_n 1, 1) := by decide +kernel
theorem dX7_cell_5 : decode cX7_cell 5 = .ok (.invokevirtual 109, 3) := by decide +kernel
theorem dX7_cell_8 : decode cX7_cell 8 = .ok (.ifCond .eq 23, 3) := by decide +kernel
theorem dX7_cell_11 : decode cX7_cell 11 = .ok (.aload_n 0, 1) := by decide +kernel
theorem dX7_cell_12 : decode cX7_cell 12 = .ok (.getfield 25, 3) := by decide +kernel
theorem dX7_cell_15 : decode cX7_cell 15 = .ok (.iload_n 2, 1) := by decide +kernel
theorem dX7_cell_16 : decode cX7_cell 16 = .ok (.invokevirtual 115, 3) := by decide +kernel
theorem dX7_cell_19 : decode cX7_cell 19 = .ok (.ifCond .eq 12, 3) := by decide +kernel
theorem dX7_cell_22 : decode cX7_cell 22 = .ok (.iload_n 3, 1) := by decide +kernel
theorem dX7_cell_23 : decode cX7_cell 23 = .ok (.ifCond .lt 8, 3) := by decide +kernel
theorem dX7_cell_26 : decode cX7_cell 26 = .ok (.iload_n 3, 1) := by decide +kernel
theorem dX7_cell_27 : decode cX7_cell 27 = .ok (.iconst 1, 1) := by decide +kernel
theorem dX7_cell_28 : decode cX7_cell 28 = .ok (.if_icmp .le 6, 3) := by decide +kernel
theorem dX7_cell_31 : decode cX7_cell 31 = .ok (.bipush (-3), 2) := by decide +kernel
theorem dX7_cell_33 : decode cX7_cell 33 = .ok (.ireturn, 1) := by decide +kernel
theorem dX7_cell_34 : decode cX7_cell 34 = .ok (.aload_n 0, 1) := by decide +kernel
theorem dX7_cell_35 : decode cX7_cell 35 = .ok (.getfield 25, 3) := by decide +kernel
theorem dX7_cell_38 : decode cX7_cell 38 = .ok (.iload_n 1, 1) := by decide +kernel
theorem dX7_cell_39 : decode cX7_cell 39 = .ok (.iload_n 2, 1) := by decide +kernel
theorem dX7_cell_40 : decode cX7_cell 40 = .ok (.iload_n 3, 1) := by decide +kernel
theorem dX7_cell_41 : decode cX7_cell 41 = .ok (.ifCond .ne 7, 3) := by decide +kernel
theorem dX7_cell_44 : decode cX7_cell 44 = .ok (.iconst 1, 1) := by decide +kernel
theorem dX7_cell_45 : decode cX7_cell 45 = .ok (.goto 4, 3) := by decide +kernel
theorem dX7_cell_48 : decode cX7_cell 48 = .ok (.iconst 0, 1) := by decide +kernel
theorem dX7_cell_49 : decode cX7_cell 49 = .ok (.invokevirtual 120, 3) := by decide +kernel
theorem dX7_cell_52 : decode cX7_cell 52 = .ok (.ireturn, 1) := by decide +kernel
theorem dX7_breaches_0 : decode cX7_breaches 0 = .ok (.aload_n 0, 1) := by decide +kernel
theorem dX7_breaches_1 : decode cX7_breaches 1 = .ok (.getfield 25, 3) := by decide +kernel
theorem dX7_breaches_4 : decode cX7_breaches 4 = .ok (.invokevirtual 123, 3) := by decide +kernel
theorem dX7_breaches_7 : decode cX7_breaches 7 = .ok (.ifCond .eq 12, 3) := by decide +kernel
theorem dX7_breaches_10 : decode cX7_breaches 10 = .ok (.iload_n 1, 1) := by decide +kernel
theorem dX7_breaches_11 : decode cX7_breaches 11 = .ok (.ifCond .lt 8, 3) := by decide +kernel
theorem dX7_breaches_14 : decode cX7_breaches 14 = .ok (.iload_n 1, 1) := by decide +kernel
theorem dX7_breaches_15 : decode cX7_breaches 15 = .ok (.iconst 1, 1) := by decide +kernel
theorem dX7_breaches_16 : decode cX7_breaches 16 = .ok (.if_icmp .le 5, 3) := by decide +kernel
theorem dX7_breaches_19 : decode cX7_breaches 19 = .ok (.iconst (-1), 1) := by decide +kernel
theorem dX7_breaches_20 : decode cX7_breaches 20 = .ok (.ireturn, 1) := by decide +kernel
theorem dX7_breaches_21 : decode cX7_breaches 21 = .ok (.iload_n 1, 1) := by decide +kernel
theorem dX7_breaches_22 : decode cX7_breaches 22 = .ok (.ifCond .ne 13, 3) := by decide +kernel
theorem dX7_breaches_25 : decode cX7_breaches 25 = .ok (.aload_n 0, 1) := by decide +kernel
theorem dX7_breaches_26 : decode cX7_breaches 26 = .ok (.getfield 25, 3) := by decide +kernel
theorem dX7_breaches_29 : decode cX7_breaches 29 = .ok (.invokevirtual 127, 3) := by decide +kernel
theorem dX7_breaches_32 : decode cX7_breaches 32 = .ok (.goto 10, 3) := by decide +kernel
theorem dX7_breaches_35 : decode cX7_breaches 35 = .ok (.aload_n 0, 1) := by decide +kernel
theorem dX7_breaches_36 : decode cX7_breaches 36 = .ok (.getfield 25, 3) := by decide +kernel
theorem dX7_breaches_39 : decode cX7_breaches 39 = .ok (.invokevirtual 130, 3) := by decide +kernel
theorem dX7_breaches_42 : decode cX7_breaches 42 = .ok (.ireturn, 1) := by decide +kernel
theorem dX7_breach_0 : decode cX7_breach 0 = .ok (.aload_n 0, 1) := by decide +kernel
theorem dX7_breach_1 : decode cX7_breach 1 = .ok (.getfield 25, 3) := by decide +kernel
theorem dX7_breach_4 : decode cX7_breach 4 = .ok (.iload_n 1, 1) := by decide +kernel
theorem dX7_breach_5 : decode cX7_breach 5 = .ok (.invokevirtual 115, 3) := by decide +kernel
theorem dX7_breach_8 : decode cX7_breach 8 = .ok (.ifCond .eq 19, 3) := by decide +kernel
theorem dX7_breach_11 : decode cX7_breach 11 = .ok (.aload_n 0, 1) := by decide +kernel
theorem dX7_breach_12 : decode cX7_breach 12 = .ok (.getfield 25, 3) := by decide +kernel
theorem dX7_breach_15 : decode cX7_breach 15 = .ok (.iload_n 2, 1) := by decide +kernel
theorem dX7_breach_16 : decode cX7_breach 16 = .ok (.invokevirtual 115, 3) := by decide +kernel
theorem dX7_breach_19 : decode cX7_breach 19 = .ok (.ifCond .eq 8, 3) := by decide +kernel
theorem dX7_breach_22 : decode cX7_breach 22 = .ok (.iload_n 1, 1) := by decide +kernel
theorem dX7_breach_23 : decode cX7_breach 23 = .ok (.iload_n 2, 1) := by decide +kernel
theorem dX7_breach_24 : decode cX7_breach 24 = .ok (.if_icmp .lt 5, 3) := by decide +kernel
theorem dX7_breach_27 : decode cX7_breach 27 = .ok (.iconst (-1), 1) := by decide +kernel
theorem dX7_breach_28 : decode cX7_breach 28 = .ok (.ireturn, 1) := by decide +kernel
theorem dX7_breach_29 : decode cX7_breach 29 = .ok (.aload_n 0, 1) := by decide +kernel
theorem dX7_breach_30 : decode cX7_breach 30 = .ok (.getfield 25, 3) := by decide +kernel
theorem dX7_breach_33 : decode cX7_breach 33 = .ok (.iload_n 1, 1) := by decide +kernel
theorem dX7_breach_34 : decode cX7_breach 34 = .ok (.iload_n 2, 1) := by decide +kernel
theorem dX7_breach_35 : decode cX7_breach 35 = .ok (.invokevirtual 133, 3) := by decide +kernel
theorem dX7_breach_38 : decode cX7_breach 38 = .ok (.ifCond .eq 7, 3) := by decide +kernel
theorem dX7_breach_41 : decode cX7_breach 41 = .ok (.iconst 1, 1) := by decide +kernel
theorem dX7_breach_42 : decode cX7_breach 42 = .ok (.goto 4, 3) := by decide +kernel
theorem dX7_breach_45 : decode cX7_breach 45 = .ok (.iconst 0, 1) := by decide +kernel
theorem dX7_breach_46 : decode cX7_breach 46 = .ok (.ireturn, 1) := by decide +kernel
theorem dX7_lanes_0 : decode cX7_lanes 0 = .ok (.aload_n 0, 1) := by decide +kernel
theorem dX7_lanes_1 : decode cX7_lanes 1 = .ok (.getfield 25, 3) := by decide +kernel
theorem dX7_lanes_4 : decode cX7_lanes 4 = .ok (.invokevirtual 123, 3) := by decide +kernel
theorem dX7_lanes_7 : decode cX7_lanes 7 = .ok (.ifCond .eq 13, 3) := by decide +kernel
theorem dX7_lanes_10 : decode cX7_lanes 10 = .ok (.aload_n 0, 1) := by decide +kernel
theorem dX7_lanes_11 : decode cX7_lanes 11 = .ok (.getfield 25, 3) := by decide +kernel
theorem dX7_lanes_14 : decode cX7_lanes 14 = .ok (.invokevirtual 137, 3) := by decide +kernel
theorem dX7_lanes_17 : decode cX7_lanes 17 = .ok (.goto 4, 3) := by decide +kernel
theorem dX7_lanes_20 : decode cX7_lanes 20 = .ok (.iconst (-1), 1) := by decide +kernel
theorem dX7_lanes_21 : decode cX7_lanes 21 = .ok (.ireturn, 1) := by decide +kernel
theorem dX7_lane_0 : decode cX7_lane 0 = .ok (.aload_n 0, 1) := by decide +kernel
theorem dX7_lane_1 : decode cX7_lane 1 = .ok (.getfield 25, 3) := by decide +kernel
theorem dX7_lane_4 : decode cX7_lane 4 = .ok (.iload_n 1, 1) := by decide +kernel
theorem dX7_lane_5 : decode cX7_lane 5 = .ok (.invokevirtual 115, 3) := by decide +kernel
theorem dX7_lane_8 : decode cX7_lane 8 = .ok (.ifCond .eq 14, 3) := by decide +kernel
theorem dX7_lane_11 : decode cX7_lane 11 = .ok (.aload_n 0, 1) := by decide +kernel
theorem dX7_lane_12 : decode cX7_lane 12 = .ok (.getfield 25, 3) := by decide +kernel
theorem dX7_lane_15 : decode cX7_lane 15 = .ok (.iload_n 1, 1) := by decide +kernel
theorem dX7_lane_16 : decode cX7_lane 16 = .ok (.invokevirtual 140, 3) := by decide +kernel
theorem dX7_lane_19 : decode cX7_lane 19 = .ok (.goto 4, 3) := by decide +kernel
theorem dX7_lane_22 : decode cX7_lane 22 = .ok (.iconst (-1), 1) := by decide +kernel
theorem dX7_lane_23 : decode cX7_lane 23 = .ok (.ireturn, 1) := by decide +kernel
theorem dX7_way_0 : decode cX7_way 0 = .ok (.iload_n 1, 1) := by decide +kernel
theorem dX7_way_1 : decode cX7_way 1 = .ok (.iload_n 2, 1) := by decide +kernel
theorem dX7_way_2 : decode cX7_way 2 = .ok (.iload_n 3, 1) := by decide +kernel
theorem dX7_way_3 : decode cX7_way 3 = .ok (.invokestatic 143, 3) := by decide +kernel
theorem dX7_way_6 : decode cX7_way 6 = .ok (.ifCond .eq 16, 3) := by decide +kernel
theorem dX7_way_9 : decode cX7_way 9 = .ok (.iload 4, 2) := by decide +kernel
theorem dX7_way_11 : decode cX7_way 11 = .ok (.ifCond .lt 11, 3) := by decide +kernel
theorem dX7_way_14 : decode cX7_way 14 = .ok (.iload 4, 2) := by decide +kernel
theorem dX7_way_16 : decode cX7_way 16 = .ok (.sipush 1440, 3) := by decide +kernel
theorem dX7_way_19 : decode cX7_way 19 = .ok (.if_icmp .lt 5, 3) := by decide +kernel
theorem dX7_way_22 : decode cX7_way 22 = .ok (.iconst (-1), 1) := by decide +kernel
theorem dX7_way_23 : decode cX7_way 23 = .ok (.ireturn, 1) := by decide +kernel
theorem dX7_way_24 : decode cX7_way 24 = .ok (.aload_n 0, 1) := by decide +kernel
theorem dX7_way_25 : decode cX7_way 25 = .ok (.getfield 32, 3) := by decide +kernel
theorem dX7_way_28 : decode cX7_way 28 = .ok (.aload_n 0, 1) := by decide +kernel
theorem dX7_way_29 : decode cX7_way 29 = .ok (.getfield 11, 3) := by decide +kernel
theorem dX7_way_32 : decode cX7_way 32 = .ok (.aload_n 0, 1) := by decide +kernel
theorem dX7_way_33 : decode cX7_way 33 = .ok (.getfield 45, 3) := by decide +kernel
theorem dX7_way_36 : decode cX7_way 36 = .ok (.iload_n 3, 1) := by decide +kernel
theorem dX7_way_37 : decode cX7_way 37 = .ok (.aload_n 0, 1) := by decide +kernel
theorem dX7_way_38 : decode cX7_way 38 = .ok (.getfield 36, 3) := by decide +kernel
theorem dX7_way_41 : decode cX7_way 41 = .ok (.invokevirtual 146, 3) := by decide +kernel
theorem dX7_way_44 : decode cX7_way 44 = .ok (.aload_n 0, 1) := by decide +kernel
theorem dX7_way_45 : decode cX7_way 45 = .ok (.getfield 32, 3) := by decide +kernel
theorem dX7_way_48 : decode cX7_way 48 = .ok (.iload_n 1, 1) := by decide +kernel
theorem dX7_way_49 : decode cX7_way 49 = .ok (.iload_n 2, 1) := by decide +kernel
theorem dX7_way_50 : decode cX7_way 50 = .ok (.iload 4, 2) := by decide +kernel
theorem dX7_way_52 : decode cX7_way 52 = .ok (.invokevirtual 150, 3) := by decide +kernel
theorem dX7_way_55 : decode cX7_way 55 = .ok (.ifCond .eq 15, 3) := by decide +kernel
theorem dX7_way_58 : decode cX7_way 58 = .ok (.aload_n 0, 1) := by decide +kernel
theorem dX7_way_59 : decode cX7_way 59 = .ok (.getfield 32, 3) := by decide +kernel
theorem dX7_way_62 : decode cX7_way 62 = .ok (.iload 5, 2) := by decide +kernel
theorem dX7_way_64 : decode cX7_way 64 = .ok (.invokevirtual 153, 3) := by decide +kernel
theorem dX7_way_67 : decode cX7_way 67 = .ok (.goto 4, 3) := by decide +kernel
theorem dX7_way_70 : decode cX7_way 70 = .ok (.iconst (-1), 1) := by decide +kernel
theorem dX7_way_71 : decode cX7_way 71 = .ok (.ireturn, 1) := by decide +kernel
theorem dX7_departures_0 : decode cX7_departures 0 = .ok (.iload_n 1, 1) := by decide +kernel
theorem dX7_departures_1 : decode cX7_departures 1 = .ok (.iload_n 2, 1) := by decide +kernel
theorem dX7_departures_2 : decode cX7_departures 2 = .ok (.iload_n 3, 1) := by decide +kernel
theorem dX7_departures_3 : decode cX7_departures 3 = .ok (.invokestatic 143, 3) := by decide +kernel
theorem dX7_departures_6 : decode cX7_departures 6 = .ok (.ifCond .ne 5, 3) := by decide +kernel
theorem dX7_departures_9 : decode cX7_departures 9 = .ok (.iconst (-1), 1) := by decide +kernel
theorem dX7_departures_10 : decode cX7_departures 10 = .ok (.ireturn, 1) := by decide +kernel
