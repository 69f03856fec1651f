theorem dX4_make_10 : decode cX4_make 10 = .ok (.aload_n 0, 1) := by decide +kernel
theorem dX4_make_11 : decode cX4_make 11 = .ok (.getfield 11, 3) := by decide +kernel
theorem dX4_make_14 : decode cX4_make 14 = .ok (.aload_n 0, 1) := by decide +kernel
theorem dX4_make_15 : decode cX4_make 15 = .ok (.getfield 50, 3) := by decide +kernel
theorem dX4_make_18 : decode cX4_make 18 = .ok (.invokevirtual 54, 3) := by decide +kernel
theorem dX4_make_21 : decode cX4_make 21 = .ok (.iconst 0, 1) := by decide +kernel
theorem dX4_make_22 : decode cX4_make 22 = .ok (.istore_n 3, 1) := by decide +kernel
theorem dX4_make_23 : decode cX4_make 23 = .ok (.iload_n 3, 1) := by decide +kernel
theorem dX4_make_24 : decode cX4_make 24 = .ok (.aload_n 0, 1) := by decide +kernel
theorem dX4_make_25 : decode cX4_make 25 = .ok (.getfield 50, 3) := by decide +kernel
theorem dX4_make_28 : decode cX4_make 28 = .ok (.if_icmp .ge 14, 3) := by decide +kernel
theorem dX4_make_31 : decode cX4_make 31 = .ok (.aload_n 0, 1) := by decide +kernel
theorem dX4_make_32 : decode cX4_make 32 = .ok (.iload_n 3, 1) := by decide +kernel
theorem dX4_make_33 : decode cX4_make 33 = .ok (.invokevirtual 57, 3) := by decide +kernel
theorem dX4_make_36 : decode cX4_make 36 = .ok (.iinc 3 1, 3) := by decide +kernel
theorem dX4_make_39 : decode cX4_make 39 = .ok (.goto (-16), 3) := by decide +kernel
theorem dX4_make_42 : decode cX4_make 42 = .ok (.aload_n 0, 1) := by decide +kernel
theorem dX4_make_43 : decode cX4_make 43 = .ok (.getfield 34, 3) := by decide +kernel
theorem dX4_make_46 : decode cX4_make 46 = .ok (.aload_n 0, 1) := by decide +kernel
theorem dX4_make_47 : decode cX4_make 47 = .ok (.getfield 11, 3) := by decide +kernel
theorem dX4_make_50 : decode cX4_make 50 = .ok (.aload_n 0, 1) := by decide +kernel
theorem dX4_make_51 : decode cX4_make 51 = .ok (.getfield 50, 3) := by decide +kernel
theorem dX4_make_54 : decode cX4_make 54 = .ok (.invokevirtual 61, 3) := by decide +kernel
theorem dX4_make_57 : decode cX4_make 57 = .ok (.aload_n 0, 1) := by decide +kernel
theorem dX4_make_58 : decode cX4_make 58 = .ok (.invokevirtual 64, 3) := by decide +kernel
theorem dX4_make_61 : decode cX4_make 61 = .ok (.return_, 1) := by decide +kernel
theorem dX4_isMade_0 : decode cX4_isMade 0 = .ok (.aload_n 0, 1) := by decide +kernel
theorem dX4_isMade_1 : decode cX4_isMade 1 = .ok (.getfield 50, 3) := by decide +kernel
theorem dX4_isMade_4 : decode cX4_isMade 4 = .ok (.ifCond .le 7, 3) := by decide +kernel
theorem dX4_isMade_7 : decode cX4_isMade 7 = .ok (.iconst 1, 1) := by decide +kernel
theorem dX4_isMade_8 : decode cX4_isMade 8 = .ok (.goto 4, 3) := by decide +kernel
theorem dX4_isMade_11 : decode cX4_isMade 11 = .ok (.iconst 0, 1) := by decide +kernel
theorem dX4_isMade_12 : decode cX4_isMade 12 = .ok (.ireturn, 1) := by decide +kernel
theorem dX4_rowCount_0 : decode cX4_rowCount 0 = .ok (.aload_n 0, 1) := by decide +kernel
theorem dX4_rowCount_1 : decode cX4_rowCount 1 = .ok (.getfield 27, 3) := by decide +kernel
theorem dX4_rowCount_4 : decode cX4_rowCount 4 = .ok (.getfield 67, 3) := by decide +kernel
theorem dX4_rowCount_7 : decode cX4_rowCount 7 = .ok (.ireturn, 1) := by decide +kernel
theorem dX4_columnCount_0 : decode cX4_columnCount 0 = .ok (.aload_n 0, 1) := by decide +kernel
theorem dX4_columnCount_1 : decode cX4_columnCount 1 = .ok (.getfield 50, 3) := by decide +kernel
theorem dX4_columnCount_4 : decode cX4_columnCount 4 = .ok (.ireturn, 1) := by decide +kernel
theorem dX4_hasRow_0 : decode cX4_hasRow 0 = .ok (.iload_n 1, 1) := by decide +kernel
theorem dX4_hasRow_1 : decode cX4_hasRow 1 = .ok (.ifCond .lt 18, 3) := by decide +kernel
theorem dX4_hasRow_4 : decode cX4_hasRow 4 = .ok (.iload_n 1, 1) := by decide +kernel
theorem dX4_hasRow_5 : decode cX4_hasRow 5 = .ok (.aload_n 0, 1) := by decide +kernel
theorem dX4_hasRow_6 : decode cX4_hasRow 6 = .ok (.getfield 27, 3) := by decide +kernel
theorem dX4_hasRow_9 : decode cX4_hasRow 9 = .ok (.getfield 67, 3) := by decide +kernel
theorem dX4_hasRow_12 : decode cX4_hasRow 12 = .ok (.if_icmp .ge 7, 3) := by decide +kernel
theorem dX4_hasRow_15 : decode cX4_hasRow 15 = .ok (.iconst 1, 1) := by decide +kernel
theorem dX4_hasRow_16 : decode cX4_hasRow 16 = .ok (.goto 4, 3) := by decide +kernel
theorem dX4_hasRow_19 : decode cX4_hasRow 19 = .ok (.iconst 0, 1) := by decide +kernel
theorem dX4_hasRow_20 : decode cX4_hasRow 20 = .ok (.ireturn, 1) := by decide +kernel
theorem dX4_hasColumn_0 : decode cX4_hasColumn 0 = .ok (.iload_n 1, 1) := by decide +kernel
theorem dX4_hasColumn_1 : decode cX4_hasColumn 1 = .ok (.ifCond .lt 15, 3) := by decide +kernel
theorem dX4_hasColumn_4 : decode cX4_hasColumn 4 = .ok (.iload_n 1, 1) := by decide +kernel
theorem dX4_hasColumn_5 : decode cX4_hasColumn 5 = .ok (.aload_n 0, 1) := by decide +kernel
theorem dX4_hasColumn_6 : decode cX4_hasColumn 6 = .ok (.getfield 50, 3) := by decide +kernel
theorem dX4_hasColumn_9 : decode cX4_hasColumn 9 = .ok (.if_icmp .ge 7, 3) := by decide +kernel
theorem dX4_hasColumn_12 : decode cX4_hasColumn 12 = .ok (.iconst 1, 1) := by decide +kernel
theorem dX4_hasColumn_13 : decode cX4_hasColumn 13 = .ok (.goto 4, 3) := by decide +kernel
theorem dX4_hasColumn_16 : decode cX4_hasColumn 16 = .ok (.iconst 0, 1) := by decide +kernel
theorem dX4_hasColumn_17 : decode cX4_hasColumn 17 = .ok (.ireturn, 1) := by decide +kernel
theorem dX4_stationOf_0 : decode cX4_stationOf 0 = .ok (.aload_n 0, 1) := by decide +kernel
theorem dX4_stationOf_1 : decode cX4_stationOf 1 = .ok (.getfield 27, 3) := by decide +kernel
theorem dX4_stationOf_4 : decode cX4_stationOf 4 = .ok (.getfield 70, 3) := by decide +kernel
theorem dX4_stationOf_7 : decode cX4_stationOf 7 = .ok (.iload_n 1, 1) := by decide +kernel
theorem dX4_stationOf_8 : decode cX4_stationOf 8 = .ok (.iaload, 1) := by decide +kernel
theorem dX4_stationOf_9 : decode cX4_stationOf 9 = .ok (.ireturn, 1) := by decide +kernel
theorem dX4_trainOf_0 : decode cX4_trainOf 0 = .ok (.aload_n 0, 1) := by decide +kernel
theorem dX4_trainOf_1 : decode cX4_trainOf 1 = .ok (.getfield 17, 3) := by decide +kernel
theorem dX4_trainOf_4 : decode cX4_trainOf 4 = .ok (.aload_n 0, 1) := by decide +kernel
theorem dX4_trainOf_5 : decode cX4_trainOf 5 = .ok (.getfield 34, 3) := by decide +kernel
theorem dX4_trainOf_8 : decode cX4_trainOf 8 = .ok (.getfield 73, 3) := by decide +kernel
theorem dX4_trainOf_11 : decode cX4_trainOf 11 = .ok (.iload_n 1, 1) := by decide +kernel
theorem dX4_trainOf_12 : decode cX4_trainOf 12 = .ok (.iaload, 1) := by decide +kernel
theorem dX4_trainOf_13 : decode cX4_trainOf 13 = .ok (.iaload, 1) := by decide +kernel
theorem dX4_trainOf_14 : decode cX4_trainOf 14 = .ok (.ireturn, 1) := by decide +kernel
theorem dX4_read_0 : decode cX4_read 0 = .ok (.aload_n 0, 1) := by decide +kernel
theorem dX4_read_1 : decode cX4_read 1 = .ok (.getfield 34, 3) := by decide +kernel
theorem dX4_read_4 : decode cX4_read 4 = .ok (.getfield 73, 3) := by decide +kernel
theorem dX4_read_7 : decode cX4_read 7 = .ok (.iload_n 2, 1) := by decide +kernel
theorem dX4_read_8 : decode cX4_read 8 = .ok (.iaload, 1) := by decide +kernel
theorem dX4_read_9 : decode cX4_read 9 = .ok (.istore 4, 2) := by decide +kernel
theorem dX4_read_11 : decode cX4_read 11 = .ok (.iload_n 1, 1) := by decide +kernel
theorem dX4_read_12 : decode cX4_read 12 = .ok (.aload_n 0, 1) := by decide +kernel
theorem dX4_read_13 : decode cX4_read 13 = .ok (.iload 4, 2) := by decide +kernel
theorem dX4_read_15 : decode cX4_read 15 = .ok (.invokevirtual 76, 3) := by decide +kernel
theorem dX4_read_18 : decode cX4_read 18 = .ok (.if_icmp .lt 13, 3) := by decide +kernel
theorem dX4_read_21 : decode cX4_read 21 = .ok (.iload_n 1, 1) := by decide +kernel
theorem dX4_read_22 : decode cX4_read 22 = .ok (.aload_n 0, 1) := by decide +kernel
theorem dX4_read_23 : decode cX4_read 23 = .ok (.iload 4, 2) := by decide +kernel
theorem dX4_read_25 : decode cX4_read 25 = .ok (.invokevirtual 80, 3) := by decide +kernel
theorem dX4_read_28 : decode cX4_read 28 = .ok (.if_icmp .le 5, 3) := by decide +kernel
theorem dX4_read_31 : decode cX4_read 31 = .ok (.iconst (-1), 1) := by decide +kernel
theorem dX4_read_32 : decode cX4_read 32 = .ok (.ireturn, 1) := by decide +kernel
theorem dX4_read_33 : decode cX4_read 33 = .ok (.iconst 0, 1) := by decide +kernel
theorem dX4_read_34 : decode cX4_read 34 = .ok (.istore 5, 2) := by decide +kernel
theorem dX4_read_36 : decode cX4_read 36 = .ok (.iload 5, 2) := by decide +kernel
theorem dX4_read_38 : decode cX4_read 38 = .ok (.aload_n 0, 1) := by decide +kernel
theorem dX4_read_39 : decode cX4_read 39 = .ok (.getfield 11, 3) := by decide +kernel
theorem dX4_read_42 : decode cX4_read 42 = .ok (.iload 4, 2) := by decide +kernel
theorem dX4_read_44 : decode cX4_read 44 = .ok (.aaload, 1) := by decide +kernel
theorem dX4_read_45 : decode cX4_read 45 = .ok (.getfield 83, 3) := by decide +kernel
theorem dX4_read_48 : decode cX4_read 48 = .ok (.if_icmp .ge 60, 3) := by decide +kernel
theorem dX4_read_51 : decode cX4_read 51 = .ok (.aload_n 0, 1) := by decide +kernel
theorem dX4_read_52 : decode cX4_read 52 = .ok (.getfield 21, 3) := by decide +kernel
theorem dX4_read_55 : decode cX4_read 55 = .ok (.iload 4, 2) := by decide +kernel
theorem dX4_read_57 : decode cX4_read 57 = .ok (.bipush 7, 2) := by decide +kernel
theorem dX4_read_59 : decode cX4_read 59 = .ok (.imul, 1) := by decide +kernel
theorem dX4_read_60 : decode cX4_read 60 = .ok (.iload 5, 2) := by decide +kernel
theorem dX4_read_62 : decode cX4_read 62 = .ok (.iadd, 1) := by decide +kernel
theorem dX4_read_63 : decode cX4_read 63 = .ok (.iaload, 1) := by decide +kernel
theorem dX4_read_64 : decode cX4_read 64 = .ok (.iload_n 1, 1) := by decide +kernel
theorem dX4_read_65 : decode cX4_read 65 = .ok (.if_icmp .ne 37, 3) := by decide +kernel
theorem dX4_read_68 : decode cX4_read 68 = .ok (.iload_n 3, 1) := by decide +kernel
theorem dX4_read_69 : decode cX4_read 69 = .ok (.ifCond .eq 19, 3) := by decide +kernel
theorem dX4_read_72 : decode cX4_read 72 = .ok (.aload_n 0, 1) := by decide +kernel
theorem dX4_read_73 : decode cX4_read 73 = .ok (.getfield 11, 3) := by decide +kernel
theorem dX4_read_76 : decode cX4_read 76 = .ok (.iload 4, 2) := by decide +kernel
theorem dX4_read_78 : decode cX4_read 78 = .ok (.aaload, 1) := by decide +kernel
theorem dX4_read_79 : decode cX4_read 79 = .ok (.getfield 86, 3) := by decide +kernel
theorem dX4_read_82 : decode cX4_read 82 = .ok (.iload 5, 2) := by decide +kernel
theorem dX4_read_84 : decode cX4_read 84 = .ok (.iaload, 1) := by decide +kernel
theorem dX4_read_85 : decode cX4_read 85 = .ok (.goto 16, 3) := by decide +kernel
theorem dX4_read_88 : decode cX4_read 88 = .ok (.aload_n 0, 1) := by decide +kernel
theorem dX4_read_89 : decode cX4_read 89 = .ok (.getfield 11, 3) := by decide +kernel
theorem dX4_read_92 : decode cX4_read 92 = .ok (.iload 4, 2) := by decide +kernel
theorem dX4_read_94 : decode cX4_read 94 = .ok (.aaload, 1) := by decide +kernel
theorem dX4_read_95 : decode cX4_read 95 = .ok (.getfield 89, 3) := by decide +kernel
theorem dX4_read_98 : decode cX4_read 98 = .ok (.iload 5, 2) := by decide +kernel
theorem dX4_read_100 : decode cX4_read 100 = .ok (.iaload, 1) := by decide +kernel
theorem dX4_read_101 : decode cX4_read 101 = .ok (.ireturn, 1) := by decide +kernel
theorem dX4_read_102 : decode cX4_read 102 = .ok (.iinc 5 1, 3) := by decide +kernel
theorem dX4_read_105 : decode cX4_read 105 = .ok (.goto (-69), 3) := by decide +kernel
theorem dX4_read_108 : decode cX4_read 108 = .ok (.bipush (-2), 2) := by decide +kernel
theorem dX4_read_110 : decode cX4_read 110 = .ok (.ireturn, 1) := by decide +kernel
theorem dX4_countBreaches_0 : decode cX4_countBreaches 0 = .ok (.aload_n 0, 1) := by decide +kernel
theorem dX4_countBreaches_1 : decode cX4_countBreaches 1 = .ok (.getfield 34, 3) := by decide +kernel
theorem dX4_countBreaches_4 : decode cX4_countBreaches 4 = .ok (.getfield 92, 3) := by decide +kernel
theorem dX4_countBreaches_7 : decode cX4_countBreaches 7 = .ok (.ireturn, 1) := by decide +kernel
theorem dX4_countKnots_0 : decode cX4_countKnots 0 = .ok (.aload_n 0, 1) := by decide +kernel
theorem dX4_countKnots_1 : decode cX4_countKnots 1 = .ok (.getfield 34, 3) := by decide +kernel
theorem dX4_countKnots_4 : decode cX4_countKnots 4 = .ok (.getfield 95, 3) := by decide +kernel
theorem dX4_countKnots_7 : decode cX4_countKnots 7 = .ok (.ireturn, 1) := by decide +kernel
theorem dX4_isBreach_0 : decode cX4_isBreach 0 = .ok (.aload_n 0, 1) := by decide +kernel
theorem dX4_isBreach_1 : decode cX4_isBreach 1 = .ok (.getfield 34, 3) := by decide +kernel
theorem dX4_isBreach_4 : decode cX4_isBreach 4 = .ok (.aload_n 0, 1) := by decide +kernel
theorem dX4_isBreach_5 : decode cX4_isBreach 5 = .ok (.getfield 34, 3) := by decide +kernel
theorem dX4_isBreach_8 : decode cX4_isBreach 8 = .ok (.getfield 73, 3) := by decide +kernel
theorem dX4_isBreach_11 : decode cX4_isBreach 11 = .ok (.iload_n 2, 1) := by decide +kernel
theorem dX4_isBreach_12 : decode cX4_isBreach 12 = .ok (.iaload, 1) := by decide +kernel
theorem dX4_isBreach_13 : decode cX4_isBreach 13 = .ok (.aload_n 0, 1) := by decide +kernel
theorem dX4_isBreach_14 : decode cX4_isBreach 14 = .ok (.getfield 34, 3) := by decide +kernel
theorem dX4_isBreach_17 : decode cX4_isBreach 17 = .ok (.getfield 73, 3) := by decide +kernel
theorem dX4_isBreach_20 : decode cX4_isBreach 20 = .ok (.iload_n 1, 1) := by decide +kernel
theorem dX4_isBreach_21 : decode cX4_isBreach 21 = .ok (.iaload, 1) := by decide +kernel
theorem dX4_isBreach_22 : decode cX4_isBreach 22 = .ok (.invokevirtual 98, 3) := by decide +kernel
theorem dX4_isBreach_25 : decode cX4_isBreach 25 = .ok (.ireturn, 1) := by decide +kernel
theorem dX4_laneCount_0 : decode cX4_laneCount 0 = .ok (.aload_n 0, 1) := by decide +kernel
theorem dX4_laneCount_1 : decode cX4_laneCount 1 = .ok (.getfield 41, 3) := by decide +kernel
theorem dX4_laneCount_4 : decode cX4_laneCount 4 = .ok (.getfield 102, 3) := by decide +kernel
theorem dX4_laneCount_7 : decode cX4_laneCount 7 = .ok (.ireturn, 1) := by decide +kernel
theorem dX4_laneOf_0 : decode cX4_laneOf 0 = .ok (.aload_n 0, 1) := by decide +kernel
theorem dX4_laneOf_1 : decode cX4_laneOf 1 = .ok (.getfield 41, 3) := by decide +kernel
theorem dX4_laneOf_4 : decode cX4_laneOf 4 = .ok (.getfield 105, 3) := by decide +kernel
theorem dX4_laneOf_7 : decode cX4_laneOf 7 = .ok (.aload_n 0, 1) := by decide +kernel
theorem dX4_laneOf_8 : decode cX4_laneOf 8 = .ok (.getfield 34, 3) := by decide +kernel
theorem dX4_laneOf_11 : decode cX4_laneOf 11 = .ok (.getfield 73, 3) := by decide +kernel
theorem dX4_laneOf_14 : decode cX4_laneOf 14 = .ok (.iload_n 1, 1) := by decide +kernel
theorem dX4_laneOf_15 : decode cX4_laneOf 15 = .ok (.iaload, 1) := by decide +kernel
theorem dX4_laneOf_16 : decode cX4_laneOf 16 = .ok (.iaload, 1) := by decide +kernel
theorem dX4_laneOf_17 : decode cX4_laneOf 17 = .ok (.ireturn, 1) := by decide +kernel
theorem dX4_takeMembers_0 : decode cX4_takeMembers 0 = .ok (.aload_n 0, 1) := by decide +kernel
theorem dX4_takeMembers_1 : decode cX4_takeMembers 1 = .ok (.iconst 0, 1) := by decide +kernel
theorem dX4_takeMembers_2 : decode cX4_takeMembers 2 = .ok (.putfield 50, 3) := by decide +kernel
theorem dX4_takeMembers_5 : decode cX4_takeMembers 5 = .ok (.iconst 0, 1) := by decide +kernel
theorem dX4_takeMembers_6 : decode cX4_takeMembers 6 = .ok (.istore_n 3, 1) := by decide +kernel
theorem dX4_takeMembers_7 : decode cX4_takeMembers 7 = .ok (.iload_n 3, 1) := by decide +kernel
theorem dX4_takeMembers_8 : decode cX4_takeMembers 8 = .ok (.aload_n 1, 1) := by decide +kernel
theorem dX4_takeMembers_9 : decode cX4_takeMembers 9 = .ok (.arraylength, 1) := by decide +kernel
theorem dX4_takeMembers_10 : decode cX4_takeMembers 10 = .ok (.if_icmp .ge 61, 3) := by decide +kernel
theorem dX4_takeMembers_13 : decode cX4_takeMembers 13 = .ok (.aload_n 0, 1) := by decide +kernel
theorem dX4_takeMembers_14 : decode cX4_takeMembers 14 = .ok (.getfield 50, 3) := by decide +kernel
theorem dX4_takeMembers_17 : decode cX4_takeMembers 17 = .ok (.bipush 6, 2) := by decide +kernel
theorem dX4_takeMembers_19 : decode cX4_takeMembers 19 = .ok (.if_icmp .ge 52, 3) := by decide +kernel
theorem dX4_takeMembers_22 : decode cX4_takeMembers 22 = .ok (.iload_n 2, 1) := by decide +kernel
theorem dX4_takeMembers_23 : decode cX4_takeMembers 23 = .ok (.iload_n 3, 1) := by decide +kernel
theorem dX4_takeMembers_24 : decode cX4_takeMembers 24 = .ok (.ishr, 1) := by decide +kernel
theorem dX4_takeMembers_25 : decode cX4_takeMembers 25 = .ok (.iconst 1, 1) := by decide +kernel
theorem dX4_takeMembers_26 : decode cX4_takeMembers 26 = .ok (.iand, 1) := by decide +kernel
theorem dX4_takeMembers_27 : decode cX4_takeMembers 27 = .ok (.ifCond .eq 38, 3) := by decide +kernel
theorem dX4_takeMembers_30 : decode cX4_takeMembers 30 = .ok (.aload_n 0, 1) := by decide +kernel
theorem dX4_takeMembers_31 : decode cX4_takeMembers 31 = .ok (.getfield 11, 3) := by decide +kernel
theorem dX4_takeMembers_34 : decode cX4_takeMembers 34 = .ok (.aload_n 0, 1) := by decide +kernel
theorem dX4_takeMembers_35 : decode cX4_takeMembers 35 = .ok (.getfield 50, 3) := by decide +kernel
theorem dX4_takeMembers_38 : decode cX4_takeMembers 38 = .ok (.aaload, 1) := by decide +kernel
theorem dX4_takeMembers_39 : decode cX4_takeMembers 39 = .ok (.aload_n 1, 1) := by decide +kernel
theorem dX4_takeMembers_40 : decode cX4_takeMembers 40 = .ok (.iload_n 3, 1) := by decide +kernel
theorem dX4_takeMembers_41 : decode cX4_takeMembers 41 = .ok (.aaload, 1) := by decide +kernel
theorem dX4_takeMembers_42 : decode cX4_takeMembers 42 = .ok (.invokevirtual 108, 3) := by decide +kernel
theorem dX4_takeMembers_45 : decode cX4_takeMembers 45 = .ok (.aload_n 0, 1) := by decide +kernel
theorem dX4_takeMembers_46 : decode cX4_takeMembers 46 = .ok (.getfield 17, 3) := by decide +kernel
theorem dX4_takeMembers_49 : decode cX4_takeMembers 49 = .ok (.aload_n 0, 1) := by decide +kernel
theorem dX4_takeMembers_50 : decode cX4_takeMembers 50 = .ok (.getfield 50, 3) := by decide +kernel
theorem dX4_takeMembers_53 : decode cX4_takeMembers 53 = .ok (.iload_n 3, 1) := by decide +kernel
theorem dX4_takeMembers_54 : decode cX4_takeMembers 54 = .ok (.iastore, 1) := by decide +kernel
theorem dX4_takeMembers_55 : decode cX4_takeMembers 55 = .ok (.aload_n 0, 1) := by decide +kernel
theorem dX4_takeMembers_56 : decode cX4_takeMembers 56 = .ok (.dup, 1) := by decide +kernel
theorem dX4_takeMembers_57 : decode cX4_takeMembers 57 = .ok (.getfield 50, 3) := by decide +kernel
theorem dX4_takeMembers_60 : decode cX4_takeMembers 60 = .ok (.iconst 1, 1) := by decide +kernel
theorem dX4_takeMembers_61 : decode cX4_takeMembers 61 = .ok (.iadd, 1) := by decide +kernel
theorem dX4_takeMembers_62 : decode cX4_takeMembers 62 = .ok (.putfield 50, 3) := by decide +kernel
theorem dX4_takeMembers_65 : decode cX4_takeMembers 65 = .ok (.iinc 3 1, 3) := by decide +kernel
theorem dX4_takeMembers_68 : decode cX4_takeMembers 68 = .ok (.goto (-61), 3) := by decide +kernel
theorem dX4_takeMembers_71 : decode cX4_takeMembers 71 = .ok (.return_, 1) := by decide +kernel
theorem dX4_placeStops_0 : decode cX4_placeStops 0 = .ok (.iconst 0, 1) := by decide +kernel
theorem dX4_placeStops_1 : decode cX4_placeStops 1 = .ok (.istore_n 2, 1) := by decide +kernel
theorem dX4_placeStops_2 : decode cX4_placeStops 2 = .ok (.iconst 0, 1) := by decide +kernel
theorem dX4_placeStops_3 : decode cX4_placeStops 3 = .ok (.istore_n 3, 1) := by decide +kernel
theorem dX4_placeStops_4 : decode cX4_placeStops 4 = .ok (.iload_n 3, 1) := by decide +kernel
theorem dX4_placeStops_5 : decode cX4_placeStops 5 = .ok (.aload_n 0, 1) := by decide +kernel
theorem dX4_placeStops_6 : decode cX4_placeStops 6 = .ok (.getfield 27, 3) := by decide +kernel
theorem dX4_placeStops_9 : decode cX4_placeStops 9 = .ok (.getfield 67, 3) := by decide +kernel
theorem dX4_placeStops_12 : decode cX4_placeStops 12 = .ok (.if_icmp .ge 60, 3) := by decide +kernel
theorem dX4_placeStops_15 : decode cX4_placeStops 15 = .ok (.iload_n 2, 1) := by decide +kernel
theorem dX4_placeStops_16 : decode cX4_placeStops 16 = .ok (.aload_n 0, 1) := by decide +kernel
theorem dX4_placeStops_17 : decode cX4_placeStops 17 = .ok (.getfield 11, 3) := by decide +kernel
theorem dX4_placeStops_20 : decode cX4_placeStops 20 = .ok (.iload_n 1, 1) := by decide +kernel
theorem dX4_placeStops_21 : decode cX4_placeStops 21 = .ok (.aaload, 1) := by decide +kernel
theorem dX4_placeStops_22 : decode cX4_placeStops 22 = .ok (.getfield 83, 3) := by decide +kernel
theorem dX4_placeStops_25 : decode cX4_placeStops 25 = .ok (.if_icmp .ge 47, 3) := by decide +kernel
theorem dX4_placeStops_28 : decode cX4_placeStops 28 = .ok (.aload_n 0, 1) := by decide +kernel
theorem dX4_placeStops_29 : decode cX4_placeStops 29 = .ok (.getfield 27, 3) := by decide +kernel
theorem dX4_placeStops_32 : decode cX4_placeStops 32 = .ok (.getfield 70, 3) := by decide +kernel
theorem dX4_placeStops_35 : decode cX4_placeStops 35 = .ok (.iload_n 3, 1) := by decide +kernel
theorem dX4_placeStops_36 : decode cX4_placeStops 36 = .ok (.iaload, 1) := by decide +kernel
theorem dX4_placeStops_37 : decode cX4_placeStops 37 = .ok (.aload_n 0, 1) := by decide +kernel
theorem dX4_placeStops_38 : decode cX4_placeStops 38 = .ok (.getfield 11, 3) := by decide +kernel
theorem dX4_placeStops_41 : decode cX4_placeStops 41 = .ok (.iload_n 1, 1) := by decide +kernel
theorem dX4_placeStops_42 : decode cX4_placeStops 42 = .ok (.aaload, 1) := by decide +kernel
theorem dX4_placeStops_43 : decode cX4_placeStops 43 = .ok (.getfield 112, 3) := by decide +kernel
theorem dX4_placeStops_46 : decode cX4_placeStops 46 = .ok (.iload_n 2, 1) := by decide +kernel
theorem dX4_placeStops_47 : decode cX4_placeStops 47 = .ok (.iaload, 1) := by decide +kernel
theorem dX4_placeStops_48 : decode cX4_placeStops 48 = .ok (.if_icmp .ne 18, 3) := by decide +kernel
theorem dX4_placeStops_51 : decode cX4_placeStops 51 = .ok (.aload_n 0, 1) := by decide +kernel
theorem dX4_placeStops_52 : decode cX4_placeStops 52 = .ok (.getfield 21, 3) := by decide +kernel
theorem dX4_placeStops_55 : decode cX4_placeStops 55 = .ok (.iload_n 1, 1) := by decide +kernel
theorem dX4_placeStops_56 : decode cX4_placeStops 56 = .ok (.bipush 7, 2) := by decide +kernel
theorem dX4_placeStops_58 : decode cX4_placeStops 58 = .ok (.imul, 1) := by decide +kernel
theorem dX4_placeStops_59 : decode cX4_placeStops 59 = .ok (.iload_n 2, 1) := by decide +kernel
theorem dX4_placeStops_60 : decode cX4_placeStops 60 = .ok (.iadd, 1) := by decide +kernel
theorem dX4_placeStops_61 : decode cX4_placeStops 61 = .ok (.iload_n 3, 1) := by decide +kernel
theorem dX4_placeStops_62 : decode cX4_placeStops 62 = .ok (.iastore, 1) := by decide +kernel
theorem dX4_placeStops_63 : decode cX4_placeStops 63 = .ok (.iinc 2 1, 3) := by decide +kernel
theorem dX4_placeStops_66 : decode cX4_placeStops 66 = .ok (.iinc 3 1, 3) := by decide +kernel
theorem dX4_placeStops_69 : decode cX4_placeStops 69 = .ok (.goto (-65), 3) := by decide +kernel
theorem dX4_placeStops_72 : decode cX4_placeStops 72 = .ok (.return_, 1) := by decide +kernel
theorem dX4_firstRow_0 : decode cX4_firstRow 0 = .ok (.aload_n 0, 1) := by decide +kernel
theorem dX4_firstRow_1 : decode cX4_firstRow 1 = .ok (.getfield 21, 3) := by decide +kernel
theorem dX4_firstRow_4 : decode cX4_firstRow 4 = .ok (.iload_n 1, 1) := by decide +kernel
theorem dX4_firstRow_5 : decode cX4_firstRow 5 = .ok (.bipush 7, 2) := by decide +kernel
theorem dX4_firstRow_7 : decode cX4_firstRow 7 = .ok (.imul, 1) := by decide +kernel
theorem dX4_firstRow_8 : decode cX4_firstRow 8 = .ok (.iaload, 1) := by decide +kernel
theorem dX4_firstRow_9 : decode cX4_firstRow 9 = .ok (.ireturn, 1) := by decide +kernel
theorem dX4_lastRow_0 : decode cX4_lastRow 0 = .ok (.aload_n 0, 1) := by decide +kernel
theorem dX4_lastRow_1 : decode cX4_lastRow 1 = .ok (.getfield 21, 3) := by decide +kernel
theorem dX4_lastRow_4 : decode cX4_lastRow 4 = .ok (.iload_n 1, 1) := by decide +kernel
theorem dX4_lastRow_5 : decode cX4_lastRow 5 = .ok (.bipush 7, 2) := by decide +kernel
theorem dX4_lastRow_7 : decode cX4_lastRow 7 = .ok (.imul, 1) := by decide +kernel
theorem dX4_lastRow_8 : decode cX4_lastRow 8 = .ok (.aload_n 0, 1) := by decide +kernel
theorem dX4_lastRow_9 : decode cX4_lastRow 9 = .ok (.getfield 11, 3) := by decide +kernel
theorem dX4_lastRow_12 : decode cX4_lastRow 12 = .ok (.iload_n 1, 1) := by decide +kernel
theorem dX4_lastRow_13 : decode cX4_lastRow 13 = .ok (.aaload, 1) := by decide +kernel
theorem dX4_lastRow_14 : decode cX4_lastRow 14 = .ok (.getfield 83, 3) := by decide +kernel
theorem dX4_lastRow_17 : decode cX4_lastRow 17 = .ok (.iadd, 1) := by decide +kernel
theorem dX4_lastRow_18 : decode cX4_lastRow 18 = .ok (.iconst 1, 1) := by decide +kernel
theorem dX4_lastRow_19 : decode cX4_lastRow 19 = .ok (.isub, 1) := by decide +kernel
theorem dX4_lastRow_20 : decode cX4_lastRow 20 = .ok (.iaload, 1) := by decide +kernel
theorem dX4_lastRow_21 : decode cX4_lastRow 21 = .ok (.ireturn, 1) := by decide +kernel
theorem dX4_planLanes_0 : decode cX4_planLanes 0 = .ok (.aload_n 0, 1) := by decide +kernel
theorem dX4_planLanes_1 : decode cX4_planLanes 1 = .ok (.getfield 41, 3) := by decide +kernel
theorem dX4_planLanes_4 : decode cX4_planLanes 4 = .ok (.invokevirtual 115, 3) := by decide +kernel
theorem dX4_planLanes_7 : decode cX4_planLanes 7 = .ok (.iconst 0, 1) := by decide +kernel
theorem dX4_planLanes_8 : decode cX4_planLanes 8 = .ok (.istore_n 1, 1) := by decide +kernel
theorem dX4_planLanes_9 : decode cX4_planLanes 9 = .ok (.iload_n 1, 1) := by decide +kernel
theorem dX4_planLanes_10 : decode cX4_planLanes 10 = .ok (.aload_n 0, 1) := by decide +kernel
theorem dX4_planLanes_11 : decode cX4_planLanes 11 = .ok (.getfield 27, 3) := by decide +kernel
theorem dX4_planLanes_14 : decode cX4_planLanes 14 = .ok (.getfield 67, 3) := by decide +kernel
theorem dX4_planLanes_17 : decode cX4_planLanes 17 = .ok (.if_icmp .ge 48, 3) := by decide +kernel
theorem dX4_planLanes_20 : decode cX4_planLanes 20 = .ok (.iconst 0, 1) := by decide +kernel
theorem dX4_planLanes_21 : decode cX4_planLanes 21 = .ok (.istore_n 2, 1) := by decide +kernel
theorem dX4_planLanes_22 : decode cX4_planLanes 22 = .ok (.iload_n 2, 1) := by decide +kernel
theorem dX4_planLanes_23 : decode cX4_planLanes 23 = .ok (.aload_n 0, 1) := by decide +kernel
theorem dX4_planLanes_24 : decode cX4_planLanes 24 = .ok (.getfield 50, 3) := by decide +kernel
theorem dX4_planLanes_27 : decode cX4_planLanes 27 = .ok (.if_icmp .ge 32, 3) := by decide +kernel
theorem dX4_planLanes_30 : decode cX4_planLanes 30 = .ok (.aload_n 0, 1) := by decide +kernel
theorem dX4_planLanes_31 : decode cX4_planLanes 31 = .ok (.iload_n 2, 1) := by decide +kernel
theorem dX4_planLanes_32 : decode cX4_planLanes 32 = .ok (.invokevirtual 76, 3) := by decide +kernel
theorem dX4_planLanes_35 : decode cX4_planLanes 35 = .ok (.iload_n 1, 1) := by decide +kernel
theorem dX4_planLanes_36 : decode cX4_planLanes 36 = .ok (.if_icmp .ne 17, 3) := by decide +kernel
theorem dX4_planLanes_39 : decode cX4_planLanes 39 = .ok (.aload_n 0, 1) := by decide +kernel
theorem dX4_planLanes_40 : decode cX4_planLanes 40 = .ok (.getfield 41, 3) := by decide +kernel
theorem dX4_planLanes_43 : decode cX4_planLanes 43 = .ok (.iload_n 2, 1) := by decide +kernel
theorem dX4_planLanes_44 : decode cX4_planLanes 44 = .ok (.iload_n 1, 1) := by decide +kernel
theorem dX4_planLanes_45 : decode cX4_planLanes 45 = .ok (.aload_n 0, 1) := by decide +kernel
theorem dX4_planLanes_46 : decode cX4_planLanes 46 = .ok (.iload_n 2, 1) := by decide +kernel
theorem dX4_planLanes_47 : decode cX4_planLanes 47 = .ok (.invokevirtual 80, 3) := by decide +kernel
theorem dX4_planLanes_50 : decode cX4_planLanes 50 = .ok (.invokevirtual 118, 3) := by decide +kernel
theorem dX4_planLanes_53 : decode cX4_planLanes 53 = .ok (.iinc 2 1, 3) := by decide +kernel
theorem dX4_planLanes_56 : decode cX4_planLanes 56 = .ok (.goto (-34), 3) := by decide +kernel
theorem dX4_planLanes_59 : decode cX4_planLanes 59 = .ok (.iinc 1 1, 3) := by decide +kernel
theorem dX4_planLanes_62 : decode cX4_planLanes 62 = .ok (.goto (-53), 3) := by decide +kernel
theorem dX4_planLanes_65 : decode cX4_planLanes 65 = .ok (.return_, 1) := by decide +kernel
theorem dX5_init_0 : decode cX5_init 0 = .ok (.aload_n 0, 1) := by decide +kernel
theorem dX5_init_1 : decode cX5_init 1 = .ok (.invokespecial 3, 3) := by decide +kernel
theorem dX5_init_4 : decode cX5_init 4 = .ok (.aload_n 0, 1) := by decide +kernel
theorem dX5_init_5 : decode cX5_init 5 = .ok (.bipush 7, 2) := by decide +kernel
theorem dX5_init_7 : decode cX5_init 7 = .ok (.newarray .int, 2) := by decide +kernel
theorem dX5_init_9 : decode cX5_init 9 = .ok (.putfield 9, 3) := by decide +kernel
theorem dX5_init_12 : decode cX5_init 12 = .ok (.aload_n 0, 1) := by decide +kernel
theorem dX5_init_13 : decode cX5_init 13 = .ok (.bipush 7, 2) := by decide +kernel
theorem dX5_init_15 : decode cX5_init 15 = .ok (.newarray .int, 2) := by decide +kernel
theorem dX5_init_17 : decode cX5_init 17 = .ok (.putfield 15, 3) := by decide +kernel
theorem dX5_init_20 : decode cX5_init 20 = .ok (.aload_n 0, 1) := by decide +kernel
theorem dX5_init_21 : decode cX5_init 21 = .ok (.bipush 7, 2) := by decide +kernel
theorem dX5_init_23 : decode cX5_init 23 = .ok (.newarray .int, 2) := by decide +kernel
theorem dX5_init_25 : decode cX5_init 25 = .ok (.putfield 18, 3) := by decide +kernel
theorem dX5_init_28 : decode cX5_init 28 = .ok (.aload_n 0, 1) := by decide +kernel
theorem dX5_init_29 : decode cX5_init 29 = .ok (.bipush 12, 2) := by decide +kernel
theorem dX5_init_31 : decode cX5_init 31 = .ok (.newarray .int, 2) := by decide +kernel
theorem dX5_init_33 : decode cX5_init 33 = .ok (.putfield 21, 3) := by decide +kernel
theorem dX5_init_36 : decode cX5_init 36 = .ok (.aload_n 0, 1) := by decide +kernel
theorem dX5_init_37 : decode cX5_init 37 = .ok (.getfield 21, 3) := by decide +kernel
theorem dX5_init_40 : decode cX5_init 40 = .ok (.iconst (-1), 1) := by decide +kernel
theorem dX5_init_41 : decode cX5_init 41 = .ok (.invokestatic 24, 3) := by decide +kernel
theorem dX5_init_44 : decode cX5_init 44 = .ok (.return_, 1) := by decide +kernel
theorem dX5_takes_0 : decode cX5_takes 0 = .ok (.aload_n 0, 1) := by decide +kernel
theorem dX5_takes_1 : decode cX5_takes 1 = .ok (.getfield 30, 3) := by decide +kernel
theorem dX5_takes_4 : decode cX5_takes 4 = .ok (.bipush 7, 2) := by decide +kernel
theorem dX5_takes_6 : decode cX5_takes 6 = .ok (.if_icmp .ge 13, 3) := by decide +kernel
theorem dX5_takes_9 : decode cX5_takes 9 = .ok (.aload_n 0, 1) := by decide +kernel
theorem dX5_takes_10 : decode cX5_takes 10 = .ok (.getfield 21, 3) := by decide +kernel
theorem dX5_takes_13 : decode cX5_takes 13 = .ok (.iload_n 1, 1) := by decide +kernel
theorem dX5_takes_14 : decode cX5_takes 14 = .ok (.iaload, 1) := by decide +kernel
theorem dX5_takes_15 : decode cX5_takes 15 = .ok (.iconst (-1), 1) := by decide +kernel
theorem dX5_takes_16 : decode cX5_takes 16 = .ok (.if_icmp .eq 5, 3) := by decide +kernel
theorem dX5_takes_19 : decode cX5_takes 19 = .ok (.iconst 0, 1) := by decide +kernel
theorem dX5_takes_20 : decode cX5_takes 20 = .ok (.ireturn, 1) := by decide +kernel
theorem dX5_takes_21 : decode cX5_takes 21 = .ok (.iload_n 2, 1) := by decide +kernel
theorem dX5_takes_22 : decode cX5_takes 22 = .ok (.ifCond .lt 15, 3) := by decide +kernel
theorem dX5_takes_25 : decode cX5_takes 25 = .ok (.iload_n 3, 1) := by decide +kernel
theorem dX5_takes_26 : decode cX5_takes 26 = .ok (.iload_n 2, 1) := by decide +kernel
theorem dX5_takes_27 : decode cX5_takes 27 = .ok (.if_icmp .lt 10, 3) := by decide +kernel
theorem dX5_takes_30 : decode cX5_takes 30 = .ok (.iload_n 3, 1) := by decide +kernel
theorem dX5_takes_31 : decode cX5_takes 31 = .ok (.sipush 1440, 3) := by decide +kernel
theorem dX5_takes_34 : decode cX5_takes 34 = .ok (.if_icmp .lt 5, 3) := by decide +kernel
theorem dX5_takes_37 : decode cX5_takes 37 = .ok (.iconst 0, 1) := by decide +kernel
theorem dX5_takes_38 : decode cX5_takes 38 = .ok (.ireturn, 1) := by decide +kernel
theorem dX5_takes_39 : decode cX5_takes 39 = .ok (.aload_n 0, 1) := by decide +kernel
theorem dX5_takes_40 : decode cX5_takes 40 = .ok (.getfield 30, 3) := by decide +kernel
theorem dX5_takes_43 : decode cX5_takes 43 = .ok (.ifCond .eq 18, 3) := by decide +kernel
theorem dX5_takes_46 : decode cX5_takes 46 = .ok (.iload_n 2, 1) := by decide +kernel
theorem dX5_takes_47 : decode cX5_takes 47 = .ok (.aload_n 0, 1) := by decide +kernel
theorem dX5_takes_48 : decode cX5_takes 48 = .ok (.getfield 18, 3) := by decide +kernel
theorem dX5_takes_51 : decode cX5_takes 51 = .ok (.aload_n 0, 1) := by decide +kernel
theorem dX5_takes_52 : decode cX5_takes 52 = .ok (.getfield 30, 3) := by decide +kernel
theorem dX5_takes_55 : decode cX5_takes 55 = .ok (.iconst 1, 1) := by decide +kernel
theorem dX5_takes_56 : decode cX5_takes 56 = .ok (.isub, 1) := by decide +kernel
theorem dX5_takes_57 : decode cX5_takes 57 = .ok (.iaload, 1) := by decide +kernel
theorem dX5_takes_58 : decode cX5_takes 58 = .ok (.if_icmp .le 7, 3) := by decide +kernel
theorem dX5_takes_61 : decode cX5_takes 61 = .ok (.iconst 1, 1) := by decide +kernel
theorem dX5_takes_62 : decode cX5_takes 62 = .ok (.goto 4, 3) := by decide +kernel
theorem dX5_takes_65 : decode cX5_takes 65 = .ok (.iconst 0, 1) := by decide +kernel
theorem dX5_takes_66 : decode cX5_takes 66 = .ok (.ireturn, 1) := by decide +kernel
theorem dX5_add_0 : decode cX5_add 0 = .ok (.aload_n 0, 1) := by decide +kernel
theorem dX5_add_1 : decode cX5_add 1 = .ok (.getfield 9, 3) := by decide +kernel
theorem dX5_add_4 : decode cX5_add 4 = .ok (.aload_n 0, 1) := by decide +kernel
theorem dX5_add_5 : decode cX5_add 5 = .ok (.getfield 30, 3) := by decide +kernel
theorem dX5_add_8 : decode cX5_add 8 = .ok (.iload_n 1, 1) := by decide +kernel
theorem dX5_add_9 : decode cX5_add 9 = .ok (.iastore, 1) := by decide +kernel
theorem dX5_add_10 : decode cX5_add 10 = .ok (.aload_n 0, 1) := by decide +kernel
theorem dX5_add_11 : decode cX5_add 11 = .ok (.getfield 15, 3) := by decide +kernel
theorem dX5_add_14 : decode cX5_add 14 = .ok (.aload_n 0, 1) := by decide +kernel
theorem dX5_add_15 : decode cX5_add 15 = .ok (.getfield 30, 3) := by decide +kernel
theorem dX5_add_18 : decode cX5_add 18 = .ok (.iload_n 2, 1) := by decide +kernel
theorem dX5_add_19 : decode cX5_add 19 = .ok (.iastore, 1) := by decide +kernel
theorem dX5_add_20 : decode cX5_add 20 = .ok (.aload_n 0, 1) := by decide +kernel
theorem dX5_add_21 : decode cX5_add 21 = .ok (.getfield 18, 3) := by decide +kernel
theorem dX5_add_24 : decode cX5_add 24 = .ok (.aload_n 0, 1) := by decide +kernel
theorem dX5_add_25 : decode cX5_add 25 = .ok (.getfield 30, 3) := by decide +kernel
theorem dX5_add_28 : decode cX5_add 28 = .ok (.iload_n 3, 1) := by decide +kernel
theorem dX5_add_29 : decode cX5_add 29 = .ok (.iastore, 1) := by decide +kernel
theorem dX5_add_30 : decode cX5_add 30 = .ok (.aload_n 0, 1) := by decide +kernel
theorem dX5_add_31 : decode cX5_add 31 = .ok (.getfield 21, 3) := by decide +kernel
theorem dX5_add_34 : decode cX5_add 34 = .ok (.iload_n 1, 1) := by decide +kernel
theorem dX5_add_35 : decode cX5_add 35 = .ok (.aload_n 0, 1) := by decide +kernel
theorem dX5_add_36 : decode cX5_add 36 = .ok (.getfield 30, 3) := by decide +kernel
theorem dX5_add_39 : decode cX5_add 39 = .ok (.iastore, 1) := by decide +kernel
theorem dX5_add_40 : decode cX5_add 40 = .ok (.aload_n 0, 1) := by decide +kernel
theorem dX5_add_41 : decode cX5_add 41 = .ok (.dup, 1) := by decide +kernel
theorem dX5_add_42 : decode cX5_add 42 = .ok (.getfield 30, 3) := by decide +kernel
theorem dX5_add_45 : decode cX5_add 45 = .ok (.iconst 1, 1) := by decide +kernel
theorem dX5_add_46 : decode cX5_add 46 = .ok (.iadd, 1) := by decide +kernel
theorem dX5_add_47 : decode cX5_add 47 = .ok (.putfield 30, 3) := by decide +kernel
theorem dX5_add_50 : decode cX5_add 50 = .ok (.return_, 1) := by decide +kernel
theorem dX5_dropLast_0 : decode cX5_dropLast 0 = .ok (.aload_n 0, 1) := by decide +kernel
theorem dX5_dropLast_1 : decode cX5_dropLast 1 = .ok (.dup, 1) := by decide +kernel
theorem dX5_dropLast_2 : decode cX5_dropLast 2 = .ok (.getfield 30, 3) := by decide +kernel
theorem dX5_dropLast_5 : decode cX5_dropLast 5 = .ok (.iconst 1, 1) := by decide +kernel
theorem dX5_dropLast_6 : decode cX5_dropLast 6 = .ok (.isub, 1) := by decide +kernel
theorem dX5_dropLast_7 : decode cX5_dropLast 7 = .ok (.putfield 30, 3) := by decide +kernel
theorem dX5_dropLast_10 : decode cX5_dropLast 10 = .ok (.aload_n 0, 1) := by decide +kernel
theorem dX5_dropLast_11 : decode cX5_dropLast 11 = .ok (.getfield 21, 3) := by decide +kernel
theorem dX5_dropLast_14 : decode cX5_dropLast 14 = .ok (.aload_n 0, 1) := by decide +kernel
theorem dX5_dropLast_15 : decode cX5_dropLast 15 = .ok (.getfield 9, 3) := by decide +kernel
theorem dX5_dropLast_18 : decode cX5_dropLast 18 = .ok (.aload_n 0, 1) := by decide +kernel
theorem dX5_dropLast_19 : decode cX5_dropLast 19 = .ok (.getfield 30, 3) := by decide +kernel
theorem dX5_dropLast_22 : decode cX5_dropLast 22 = .ok (.iaload, 1) := by decide +kernel
theorem dX5_dropLast_23 : decode cX5_dropLast 23 = .ok (.iconst (-1), 1) := by decide +kernel
theorem dX5_dropLast_24 : decode cX5_dropLast 24 = .ok (.iastore, 1) := by decide +kernel
theorem dX5_dropLast_25 : decode cX5_dropLast 25 = .ok (.return_, 1) := by decide +kernel
theorem dX5_staysInDay_0 : decode cX5_staysInDay 0 = .ok (.aload_n 0, 1) := by decide +kernel
theorem dX5_staysInDay_1 : decode cX5_staysInDay 1 = .ok (.getfield 30, 3) := by decide +kernel
theorem dX5_staysInDay_4 : decode cX5_staysInDay 4 = .ok (.ifCond .ne 5, 3) := by decide +kernel
theorem dX5_staysInDay_7 : decode cX5_staysInDay 7 = .ok (.iconst 1, 1) := by decide +kernel
theorem dX5_staysInDay_8 : decode cX5_staysInDay 8 = .ok (.ireturn, 1) := by decide +kernel
theorem dX5_staysInDay_9 : decode cX5_staysInDay 9 = .ok (.aload_n 0, 1) := by decide +kernel
theorem dX5_staysInDay_10 : decode cX5_staysInDay 10 = .ok (.getfield 15, 3) := by decide +kernel
theorem dX5_staysInDay_13 : decode cX5_staysInDay 13 = .ok (.iconst 0, 1) := by decide +kernel
theorem dX5_staysInDay_14 : decode cX5_staysInDay 14 = .ok (.iaload, 1) := by decide +kernel
theorem dX5_staysInDay_15 : decode cX5_staysInDay 15 = .ok (.i2l, 1) := by decide +kernel
theorem dX5_staysInDay_16 : decode cX5_staysInDay 16 = .ok (.iload_n 1, 1) := by decide +kernel
theorem dX5_staysInDay_17 : decode cX5_staysInDay 17 = .ok (.i2l, 1) := by decide +kernel
theorem dX5_staysInDay_18 : decode cX5_staysInDay 18 = .ok (.ladd, 1) := by decide +kernel
theorem dX5_staysInDay_19 : decode cX5_staysInDay 19 = .ok (.lstore_n 2, 1) := by decide +kernel
theorem dX5_staysInDay_20 : decode cX5_staysInDay 20 = .ok (.aload_n 0, 1) := by decide +kernel
theorem dX5_staysInDay_21 : decode cX5_staysInDay 21 = .ok (.getfield 18, 3) := by decide +kernel
theorem dX5_staysInDay_24 : decode cX5_staysInDay 24 = .ok (.aload_n 0, 1) := by decide +kernel
theorem dX5_staysInDay_25 : decode cX5_staysInDay 25 = .ok (.getfield 30, 3) := by decide +kernel
theorem dX5_staysInDay_28 : decode cX5_staysInDay 28 = .ok (.iconst 1, 1) := by decide +kernel
theorem dX5_staysInDay_29 : decode cX5_staysInDay 29 = .ok (.isub, 1) := by decide +kernel
theorem dX5_staysInDay_30 : decode cX5_staysInDay 30 = .ok (.iaload, 1) := by decide +kernel
theorem dX5_staysInDay_31 : decode cX5_staysInDay 31 = .ok (.i2l, 1) := by decide +kernel
theorem dX5_staysInDay_32 : decode cX5_staysInDay 32 = .ok (.iload_n 1, 1) := by decide +kernel
theorem dX5_staysInDay_33 : decode cX5_staysInDay 33 = .ok (.i2l, 1) := by decide +kernel
theorem dX5_staysInDay_34 : decode cX5_staysInDay 34 = .ok (.ladd, 1) := by decide +kernel
theorem dX5_staysInDay_35 : decode cX5_staysInDay 35 = .ok (.lstore 4, 2) := by decide +kernel
theorem dX5_staysInDay_37 : decode cX5_staysInDay 37 = .ok (.lload_n 2, 1) := by decide +kernel
theorem dX5_staysInDay_38 : decode cX5_staysInDay 38 = .ok (.lconst 0, 1) := by decide +kernel
theorem dX5_staysInDay_39 : decode cX5_staysInDay 39 = .ok (.lcmp, 1) := by decide +kernel
theorem dX5_staysInDay_40 : decode cX5_staysInDay 40 = .ok (.ifCond .lt 16, 3) := by decide +kernel
theorem dX5_staysInDay_43 : decode cX5_staysInDay 43 = .ok (.lload 4, 2) := by decide +kernel
theorem dX5_staysInDay_45 : decode cX5_staysInDay 45 = .ok (.ldc2_w 34, 3) := by decide +kernel
theorem dX5_staysInDay_48 : decode cX5_staysInDay 48 = .ok (.lcmp, 1) := by decide +kernel
theorem dX5_staysInDay_49 : decode cX5_staysInDay 49 = .ok (.ifCond .ge 7, 3) := by decide +kernel
theorem dX5_staysInDay_52 : decode cX5_staysInDay 52 = .ok (.iconst 1, 1) := by decide +kernel
theorem dX5_staysInDay_53 : decode cX5_staysInDay 53 = .ok (.goto 4, 3) := by decide +kernel
theorem dX5_staysInDay_56 : decode cX5_staysInDay 56 = .ok (.iconst 0, 1) := by decide +kernel
theorem dX5_staysInDay_57 : decode cX5_staysInDay 57 = .ok (.ireturn, 1) := by decide +kernel
theorem dX5_move_0 : decode cX5_move 0 = .ok (.iconst 0, 1) := by decide +kernel
theorem dX5_move_1 : decode cX5_move 1 = .ok (.istore_n 2, 1) := by decide +kernel
theorem dX5_move_2 : decode cX5_move 2 = .ok (.iload_n 2, 1) := by decide +kernel
theorem dX5_move_3 : decode cX5_move 3 = .ok (.aload_n 0, 1) := by decide +kernel
theorem dX5_move_4 : decode cX5_move 4 = .ok (.getfield 30, 3) := by decide +kernel
theorem dX5_move_7 : decode cX5_move 7 = .ok (.if_icmp .ge 29, 3) := by decide +kernel
theorem dX5_move_10 : decode cX5_move 10 = .ok (.aload_n 0, 1) := by decide +kernel
theorem dX5_move_11 : decode cX5_move 11 = .ok (.getfield 15, 3) := by decide +kernel
theorem dX5_move_14 : decode cX5_move 14 = .ok (.iload_n 2, 1) := by decide +kernel
theorem dX5_move_15 : decode cX5_move 15 = .ok (.dup2, 1) := by decide +kernel
theorem dX5_move_16 : decode cX5_move 16 = .ok (.iaload, 1) := by decide +kernel
theorem dX5_move_17 : decode cX5_move 17 = .ok (.iload_n 1, 1) := by decide +kernel
theorem dX5_move_18 : decode cX5_move 18 = .ok (.iadd, 1) := by decide +kernel
theorem dX5_move_19 : decode cX5_move 19 = .ok (.iastore, 1) := by decide +kernel
theorem dX5_move_20 : decode cX5_move 20 = .ok (.aload_n 0, 1) := by decide +kernel
theorem dX5_move_21 : decode cX5_move 21 = .ok (.getfield 18, 3) := by decide +kernel
theorem dX5_move_24 : decode cX5_move 24 = .ok (.iload_n 2, 1) := by decide +kernel
theorem dX5_move_25 : decode cX5_move 25 = .ok (.dup2, 1) := by decide +kernel
theorem dX5_move_26 : decode cX5_move 26 = .ok (.iaload, 1) := by decide +kernel
theorem dX5_move_27 : decode cX5_move 27 = .ok (.iload_n 1, 1) := by decide +kernel
theorem dX5_move_28 : decode cX5_move 28 = .ok (.iadd, 1) := by decide +kernel
theorem dX5_move_29 : decode cX5_move 29 = .ok (.iastore, 1) := by decide +kernel
theorem dX5_move_30 : decode cX5_move 30 = .ok (.iinc 2 1, 3) := by decide +kernel
theorem dX5_move_33 : decode cX5_move 33 = .ok (.goto (-31), 3) := by decide +kernel
theorem dX5_move_36 : decode cX5_move 36 = .ok (.return_, 1) := by decide +kernel
theorem dX5_runsOn_0 : decode cX5_runsOn 0 = .ok (.aload_n 0, 1) := by decide +kernel
theorem dX5_runsOn_1 : decode cX5_runsOn 1 = .ok (.getfield 36, 3) := by decide +kernel
theorem dX5_runsOn_4 : decode cX5_runsOn 4 = .ok (.iload_n 1, 1) := by decide +kernel
theorem dX5_runsOn_5 : decode cX5_runsOn 5 = .ok (.ishr, 1) := by decide +kernel
theorem dX5_runsOn_6 : decode cX5_runsOn 6 = .ok (.iconst 1, 1) := by decide +kernel
theorem dX5_runsOn_7 : decode cX5_runsOn 7 = .ok (.iand, 1) := by decide +kernel
theorem dX5_runsOn_8 : decode cX5_runsOn 8 = .ok (.ifCond .eq 7, 3) := by decide +kernel
theorem dX5_runsOn_11 : decode cX5_runsOn 11 = .ok (.iconst 1, 1) := by decide +kernel
theorem dX5_runsOn_12 : decode cX5_runsOn 12 = .ok (.goto 4, 3) := by decide +kernel
theorem dX5_runsOn_15 : decode cX5_runsOn 15 = .ok (.iconst 0, 1) := by decide +kernel
theorem dX5_runsOn_16 : decode cX5_runsOn 16 = .ok (.ireturn, 1) := by decide +kernel
theorem dX5_read_0 : decode cX5_read 0 = .ok (.iload_n 1, 1) := by decide +kernel
theorem dX5_read_1 : decode cX5_read 1 = .ok (.ifCond .ne 8, 3) := by decide +kernel
theorem dX5_read_4 : decode cX5_read 4 = .ok (.aload_n 0, 1) := by decide +kernel
theorem dX5_read_5 : decode cX5_read 5 = .ok (.getfield 36, 3) := by decide +kernel
theorem dX5_read_8 : decode cX5_read 8 = .ok (.ireturn, 1) := by decide +kernel
theorem dX5_read_9 : decode cX5_read 9 = .ok (.iload_n 1, 1) := by decide +kernel
theorem dX5_read_10 : decode cX5_read 10 = .ok (.iconst 1, 1) := by decide +kernel
theorem dX5_read_11 : decode cX5_read 11 = .ok (.if_icmp .ne 8, 3) := by decide +kernel
theorem dX5_read_14 : decode cX5_read 14 = .ok (.aload_n 0, 1) := by decide +kernel
theorem dX5_read_15 : decode cX5_read 15 = .ok (.getfield 30, 3) := by decide +kernel
theorem dX5_read_18 : decode cX5_read 18 = .ok (.ireturn, 1) := by decide +kernel
theorem dX5_read_19 : decode cX5_read 19 = .ok (.iload_n 1, 1) := by decide +kernel
theorem dX5_read_20 : decode cX5_read 20 = .ok (.bipush 10, 2) := by decide +kernel
theorem dX5_read_22 : decode cX5_read 22 = .ok (.idiv, 1) := by decide +kernel
theorem dX5_read_23 : decode cX5_read 23 = .ok (.iconst 1, 1) := by decide +kernel
theorem dX5_read_24 : decode cX5_read 24 = .ok (.isub, 1) := by decide +kernel
theorem dX5_read_25 : decode cX5_read 25 = .ok (.istore_n 2, 1) := by decide +kernel
theorem dX5_read_26 : decode cX5_read 26 = .ok (.iload_n 2, 1) := by decide +kernel
theorem dX5_read_27 : decode cX5_read 27 = .ok (.ifCond .lt 11, 3) := by decide +kernel
theorem dX5_read_30 : decode cX5_read 30 = .ok (.iload_n 2, 1) := by decide +kernel
theorem dX5_read_31 : decode cX5_read 31 = .ok (.aload_n 0, 1) := by decide +kernel
theorem dX5_read_32 : decode cX5_read 32 = .ok (.getfield 30, 3) := by decide +kernel
theorem dX5_read_35 : decode cX5_read 35 = .ok (.if_icmp .lt 5, 3) := by decide +kernel
theorem dX5_read_38 : decode cX5_read 38 = .ok (.iconst (-1), 1) := by decide +kernel
theorem dX5_read_39 : decode cX5_read 39 = .ok (.ireturn, 1) := by decide +kernel
theorem dX5_read_40 : decode cX5_read 40 = .ok (.iload_n 1, 1) := by decide +kernel
theorem dX5_read_41 : decode cX5_read 41 = .ok (.bipush 10, 2) := by decide +kernel
theorem dX5_read_43 : decode cX5_read 43 = .ok (.irem, 1) := by decide +kernel
theorem dX5_read_44 : decode cX5_read 44 = .ok (.tableswitch 49 0 2 #[28, 35, 42], 28) := by decide +kernel
theorem dX5_read_72 : decode cX5_read 72 = .ok (.aload_n 0, 1) := by decide +kernel
theorem dX5_read_73 : decode cX5_read 73 = .ok (.getfield 9, 3) := by decide +kernel
theorem dX5_read_76 : decode cX5_read 76 = .ok (.iload_n 2, 1) := by decide +kernel
theorem dX5_read_77 : decode cX5_read 77 = .ok (.iaload, 1) := by decide +kernel
theorem dX5_read_78 : decode cX5_read 78 = .ok (.ireturn, 1) := by decide +kernel
theorem dX5_read_79 : decode cX5_read 79 = .ok (.aload_n 0, 1) := by decide +kernel
theorem dX5_read_80 : decode cX5_read 80 = .ok (.getfield 15, 3) := by decide +kernel
theorem dX5_read_83 : decode cX5_read 83 = .ok (.iload_n 2, 1) := by decide +kernel
theorem dX5_read_84 : decode cX5_read 84 = .ok (.iaload, 1) := by decide +kernel
theorem dX5_read_85 : decode cX5_read 85 = .ok (.ireturn, 1) := by decide +kernel
theorem dX5_read_86 : decode cX5_read 86 = .ok (.aload_n 0, 1) := by decide +kernel
theorem dX5_read_87 : decode cX5_read 87 = .ok (.getfield 18, 3) := by decide +kernel
theorem dX5_read_90 : decode cX5_read 90 = .ok (.iload_n 2, 1) := by decide +kernel
theorem dX5_read_91 : decode cX5_read 91 = .ok (.iaload, 1) := by decide +kernel
theorem dX5_read_92 : decode cX5_read 92 = .ok (.ireturn, 1) := by decide +kernel
theorem dX5_read_93 : decode cX5_read 93 = .ok (.iconst (-1), 1) := by decide +kernel
theorem dX5_read_94 : decode cX5_read 94 = .ok (.ireturn, 1) := by decide +kernel
theorem dX5_leaves_0 : decode cX5_leaves 0 = .ok (.iload_n 1, 1) := by decide +kernel
theorem dX5_leaves_1 : decode cX5_leaves 1 = .ok (.aload_n 0, 1) := by decide +kernel
theorem dX5_leaves_2 : decode cX5_leaves 2 = .ok (.getfield 30, 3) := by decide +kernel
theorem dX5_leaves_5 : decode cX5_leaves 5 = .ok (.iconst 1, 1) := by decide +kernel
theorem dX5_leaves_6 : decode cX5_leaves 6 = .ok (.isub, 1) := by decide +kernel
theorem dX5_leaves_7 : decode cX5_leaves 7 = .ok (.if_icmp .ne 12, 3) := by decide +kernel
theorem dX5_leaves_10 : decode cX5_leaves 10 = .ok (.aload_n 0, 1) := by decide +kernel
theorem dX5_leaves_11 : decode cX5_leaves 11 = .ok (.getfield 15, 3) := by decide +kernel
theorem dX5_leaves_14 : decode cX5_leaves 14 = .ok (.iload_n 1, 1) := by decide +kernel
theorem dX5_leaves_15 : decode cX5_leaves 15 = .ok (.iaload, 1) := by decide +kernel
theorem dX5_leaves_16 : decode cX5_leaves 16 = .ok (.goto 9, 3) := by decide +kernel
theorem dX5_leaves_19 : decode cX5_leaves 19 = .ok (.aload_n 0, 1) := by decide +kernel
theorem dX5_leaves_20 : decode cX5_leaves 20 = .ok (.getfield 18, 3) := by decide +kernel
theorem dX5_leaves_23 : decode cX5_leaves 23 = .ok (.iload_n 1, 1) := by decide +kernel
theorem dX5_leaves_24 : decode cX5_leaves 24 = .ok (.iaload, 1) := by decide +kernel
theorem dX5_leaves_25 : decode cX5_leaves 25 = .ok (.ireturn, 1) := by decide +kernel
theorem dX5_isAheadSomewhere_0 : decode cX5_isAheadSomewhere 0 = .ok (.iconst 0, 1) := by decide +kernel
theorem dX5_isAheadSomewhere_1 : decode cX5_isAheadSomewhere 1 = .ok (.istore_n 2, 1) := by decide +kernel
theorem dX5_isAheadSomewhere_2 : decode cX5_isAheadSomewhere 2 = .ok (.iload_n 2, 1) := by decide +kernel
theorem dX5_isAheadSomewhere_3 : decode cX5_isAheadSomewhere 3 = .ok (.aload_n 0, 1) := by decide +kernel
theorem dX5_isAheadSomewhere_4 : decode cX5_isAheadSomewhere 4 = .ok (.getfield 30, 3) := by decide +kernel
theorem dX5_isAheadSomewhere_7 : decode cX5_isAheadSomewhere 7 = .ok (.if_icmp .ge 41, 3) := by decide +kernel
theorem dX5_isAheadSomewhere_10 : decode cX5_isAheadSomewhere 10 = .ok (.aload_n 1, 1) := by decide +kernel
theorem dX5_isAheadSomewhere_11 : decode cX5_isAheadSomewhere 11 = .ok (.getfield 21, 3) := by decide +kernel
theorem dX5_isAheadSomewhere_14 : decode cX5_isAheadSomewhere 14 = .ok (.aload_n 0, 1) := by decide +kernel
theorem dX5_isAheadSomewhere_15 : decode cX5_isAheadSomewhere 15 = .ok (.getfield 9, 3) := by decide +kernel
theorem dX5_isAheadSomewhere_18 : decode cX5_isAheadSomewhere 18 = .ok (.iload_n 2, 1) := by decide +kernel
theorem dX5_isAheadSomewhere_19 : decode cX5_isAheadSomewhere 19 = .ok (.iaload, 1) := by decide +kernel
theorem dX5_isAheadSomewhere_20 : decode cX5_isAheadSomewhere 20 = .ok (.iaload, 1) := by decide +kernel
theorem dX5_isAheadSomewhere_21 : decode cX5_isAheadSomewhere 21 = .ok (.istore_n 3, 1) := by decide +kernel
theorem dX5_isAheadSomewhere_22 : decode cX5_isAheadSomewhere 22 = .ok (.iload_n 3, 1) := by decide +kernel
theorem dX5_isAheadSomewhere_23 : decode cX5_isAheadSomewhere 23 = .ok (.iconst (-1), 1) := by decide +kernel
theorem dX5_isAheadSomewhere_24 : decode cX5_isAheadSomewhere 24 = .ok (.if_icmp .eq 18, 3) := by decide +kernel
theorem dX5_isAheadSomewhere_27 : decode cX5_isAheadSomewhere 27 = .ok (.aload_n 0, 1) := by decide +kernel
theorem dX5_isAheadSomewhere_28 : decode cX5_isAheadSomewhere 28 = .ok (.iload_n 2, 1) := by decide +kernel
theorem dX5_isAheadSomewhere_29 : decode cX5_isAheadSomewhere 29 = .ok (.invokevirtual 39, 3) := by decide +kernel
theorem dX5_isAheadSomewhere_32 : decode cX5_isAheadSomewhere 32 = .ok (.aload_n 1, 1) := by decide +kernel
theorem dX5_isAheadSomewhere_33 : decode cX5_isAheadSomewhere 33 = .ok (.iload_n 3, 1) := by decide +kernel
theorem dX5_isAheadSomewhere_34 : decode cX5_isAheadSomewhere 34 = .ok (.invokevirtual 39, 3) := by decide +kernel
theorem dX5_isAheadSomewhere_37 : decode cX5_isAheadSomewhere 37 = .ok (.if_icmp .ge 5, 3) := by decide +kernel
theorem dX5_isAheadSomewhere_40 : decode cX5_isAheadSomewhere 40 = .ok (.iconst 1, 1) := by decide +kernel
theorem dX5_isAheadSomewhere_41 : decode cX5_isAheadSomewhere 41 = .ok (.ireturn, 1) := by decide +kernel
theorem dX5_isAheadSomewhere_42 : decode cX5_isAheadSomewhere 42 = .ok (.iinc 2 1, 3) := by decide +kernel
theorem dX5_isAheadSomewhere_45 : decode cX5_isAheadSomewhere 45 = .ok (.goto (-43), 3) := by decide +kernel
theorem dX5_isAheadSomewhere_48 : decode cX5_isAheadSomewhere 48 = .ok (.iconst 0, 1) := by decide +kernel
theorem dX5_isAheadSomewhere_49 : decode cX5_isAheadSomewhere 49 = .ok (.ireturn, 1) := by decide +kernel
theorem dX5_copy_0 : decode cX5_copy 0 = .ok (.aload_n 0, 1) := by decide +kernel
theorem dX5_copy_1 : decode cX5_copy 1 = .ok (.aload_n 1, 1) := by decide +kernel
theorem dX5_copy_2 : decode cX5_copy 2 = .ok (.getfield 36, 3) := by decide +kernel
theorem dX5_copy_5 : decode cX5_copy 5 = .ok (.putfield 36, 3) := by decide +kernel
theorem dX5_copy_8 : decode cX5_copy 8 = .ok (.aload_n 0, 1) := by decide +kernel
theorem dX5_copy_9 : decode cX5_copy 9 = .ok (.aload_n 1, 1) := by decide +kernel
theorem dX5_copy_10 : decode cX5_copy 10 = .ok (.getfield 30, 3) := by decide +kernel
theorem dX5_copy_13 : decode cX5_copy 13 = .ok (.putfield 30, 3) := by decide +kernel
theorem dX5_copy_16 : decode cX5_copy 16 = .ok (.aload_n 1, 1) := by decide +kernel
theorem dX5_copy_17 : decode cX5_copy 17 = .ok (.getfield 9, 3) := by decide +kernel
theorem dX5_copy_20 : decode cX5_copy 20 = .ok (.iconst 0, 1) := by decide +kernel
theorem dX5_copy_21 : decode cX5_copy 21 = .ok (.aload_n 0, 1) := by decide +kernel
theorem dX5_copy_22 : decode cX5_copy 22 = .ok (.getfield 9, 3) := by decide +kernel
theorem dX5_copy_25 : decode cX5_copy 25 = .ok (.iconst 0, 1) := by decide +kernel
theorem dX5_copy_26 : decode cX5_copy 26 = .ok (.bipush 7, 2) := by decide +kernel
theorem dX5_copy_28 : decode cX5_copy 28 = .ok (.invokestatic 43, 3) := by decide +kernel
theorem dX5_copy_31 : decode cX5_copy 31 = .ok (.aload_n 1, 1) := by decide +kernel
theorem dX5_copy_32 : decode cX5_copy 32 = .ok (.getfield 15, 3) := by decide +kernel
theorem dX5_copy_35 : decode cX5_copy 35 = .ok (.iconst 0, 1) := by decide +kernel
theorem dX5_copy_36 : decode cX5_copy 36 = .ok (.aload_n 0, 1) := by decide +kernel
theorem dX5_copy_37 : decode cX5_copy 37 = .ok (.getfield 15, 3) := by decide +kernel
theorem dX5_copy_40 : decode cX5_copy 40 = .ok (.iconst 0, 1) := by decide +kernel
theorem dX5_copy_41 : decode cX5_copy 41 = .ok (.bipush 7, 2) := by decide +kernel
theorem dX5_copy_43 : decode cX5_copy 43 = .ok (.invokestatic 43, 3) := by decide +kernel
theorem dX5_copy_46 : decode cX5_copy 46 = .ok (.aload_n 1, 1) := by decide +kernel
theorem dX5_copy_47 : decode cX5_copy 47 = .ok (.getfield 18, 3) := by decide +kernel
theorem dX5_copy_50 : decode cX5_copy 50 = .ok (.iconst 0, 1) := by decide +kernel
theorem dX5_copy_51 : decode cX5_copy 51 = .ok (.aload_n 0, 1) := by decide +kernel
theorem dX5_copy_52 : decode cX5_copy 52 = .ok (.getfield 18, 3) := by decide +kernel
theorem dX5_copy_55 : decode cX5_copy 55 = .ok (.iconst 0, 1) := by decide +kernel
theorem dX5_copy_56 : decode cX5_copy 56 = .ok (.bipush 7, 2) := by decide +kernel
theorem dX5_copy_58 : decode cX5_copy 58 = .ok (.invokestatic 43, 3) := by decide +kernel
theorem dX5_copy_61 : decode cX5_copy 61 = .ok (.aload_n 1, 1) := by decide +kernel
theorem dX5_copy_62 : decode cX5_copy 62 = .ok (.getfield 21, 3) := by decide +kernel
theorem dX5_copy_65 : decode cX5_copy 65 = .ok (.iconst 0, 1) := by decide +kernel
theorem dX5_copy_66 : decode cX5_copy 66 = .ok (.aload_n 0, 1) := by decide +kernel
theorem dX5_copy_67 : decode cX5_copy 67 = .ok (.getfield 21, 3) := by decide +kernel
theorem dX5_copy_70 : decode cX5_copy 70 = .ok (.iconst 0, 1) := by decide +kernel
theorem dX5_copy_71 : decode cX5_copy 71 = .ok (.bipush 12, 2) := by decide +kernel
theorem dX5_copy_73 : decode cX5_copy 73 = .ok (.invokestatic 43, 3) := by decide +kernel
theorem dX5_copy_76 : decode cX5_copy 76 = .ok (.return_, 1) := by decide +kernel
theorem dX6_init_0 : decode cX6_init 0 = .ok (.aload_n 0, 1) := by decide +kernel
theorem dX6_init_1 : decode cX6_init 1 = .ok (.invokespecial 3, 3) := by decide +kernel
theorem dX6_init_4 : decode cX6_init 4 = .ok (.aload_n 0, 1) := by decide +kernel
theorem dX6_init_5 : decode cX6_init 5 = .ok (.iconst 0, 1) := by decide +kernel
theorem dX6_init_6 : decode cX6_init 6 = .ok (.anewarray 9, 3) := by decide +kernel
theorem dX6_init_9 : decode cX6_init 9 = .ok (.putfield 11, 3) := by decide +kernel
theorem dX6_init_12 : decode cX6_init 12 = .ok (.aload_n 0, 1) := by decide +kernel
theorem dX6_init_13 : decode cX6_init 13 = .ok (.bipush 12, 2) := by decide +kernel
theorem dX6_init_15 : decode cX6_init 15 = .ok (.newarray .int, 2) := by decide +kernel
theorem dX6_init_17 : decode cX6_init 17 = .ok (.putfield 17, 3) := by decide +kernel
theorem dX6_init_20 : decode cX6_init 20 = .ok (.aload_n 0, 1) := by decide +kernel
theorem dX6_init_21 : decode cX6_init 21 = .ok (.bipush 100, 2) := by decide +kernel
theorem dX6_init_23 : decode cX6_init 23 = .ok (.newarray .int, 2) := by decide +kernel
theorem dX6_init_25 : decode cX6_init 25 = .ok (.putfield 21, 3) := by decide +kernel
theorem dX6_init_28 : decode cX6_init 28 = .ok (.aload_n 0, 1) := by decide +kernel
theorem dX6_init_29 : decode cX6_init 29 = .ok (.bipush 10, 2) := by decide +kernel
theorem dX6_init_31 : decode cX6_init 31 = .ok (.newarray .int, 2) := by decide +kernel
theorem dX6_init_33 : decode cX6_init 33 = .ok (.putfield 24, 3) := by decide +kernel
theorem dX6_init_36 : decode cX6_init 36 = .ok (.aload_n 0, 1) := by decide +kernel
theorem dX6_init_37 : decode cX6_init 37 = .ok (.bipush 10, 2) := by decide +kernel
theorem dX6_init_39 : decode cX6_init 39 = .ok (.newarray .int, 2) := by decide +kernel
theorem dX6_init_41 : decode cX6_init 41 = .ok (.putfield 27, 3) := by decide +kernel
theorem dX6_init_44 : decode cX6_init 44 = .ok (.aload_n 0, 1) := by decide +kernel
theorem dX6_init_45 : decode cX6_init 45 = .ok (.bipush 10, 2) := by decide +kernel
theorem dX6_init_47 : decode cX6_init 47 = .ok (.newarray .int, 2) := by decide +kernel
theorem dX6_init_49 : decode cX6_init 49 = .ok (.putfield 30, 3) := by decide +kernel
theorem dX6_init_52 : decode cX6_init 52 = .ok (.aload_n 0, 1) := by decide +kernel
theorem dX6_init_53 : decode cX6_init 53 = .ok (.bipush 10, 2) := by decide +kernel
theorem dX6_init_55 : decode cX6_init 55 = .ok (.newarray .int, 2) := by decide +kernel
theorem dX6_init_57 : decode cX6_init 57 = .ok (.putfield 33, 3) := by decide +kernel
theorem dX6_init_60 : decode cX6_init 60 = .ok (.aload_n 0, 1) := by decide +kernel
theorem dX6_init_61 : decode cX6_init 61 = .ok (.bipush 10, 2) := by decide +kernel
theorem dX6_init_63 : decode cX6_init 63 = .ok (.newarray .int, 2) := by decide +kernel
theorem dX6_init_65 : decode cX6_init 65 = .ok (.putfield 36, 3) := by decide +kernel
theorem dX6_init_68 : decode cX6_init 68 = .ok (.aload_n 0, 1) := by decide +kernel
theorem dX6_init_69 : decode cX6_init 69 = .ok (.bipush 10, 2) := by decide +kernel
theorem dX6_init_71 : decode cX6_init 71 = .ok (.newarray .int, 2) := by decide +kernel
theorem dX6_init_73 : decode cX6_init 73 = .ok (.putfield 39, 3) := by decide +kernel
theorem dX6_init_76 : decode cX6_init 76 = .ok (.return_, 1) := by decide +kernel
theorem dX6_setOut_0 : decode cX6_setOut 0 = .ok (.aload_n 0, 1) := by decide +kernel
theorem dX6_setOut_1 : decode cX6_setOut 1 = .ok (.aload_n 1, 1) := by decide +kernel
theorem dX6_setOut_2 : decode cX6_setOut 2 = .ok (.putfield 11, 3) := by decide +kernel
theorem dX6_setOut_5 : decode cX6_setOut 5 = .ok (.aload_n 0, 1) := by decide +kernel
theorem dX6_setOut_6 : decode cX6_setOut 6 = .ok (.iload_n 2, 1) := by decide +kernel
theorem dX6_setOut_7 : decode cX6_setOut 7 = .ok (.putfield 42, 3) := by decide +kernel
theorem dX6_setOut_10 : decode cX6_setOut 10 = .ok (.aload_n 0, 1) := by decide +kernel
theorem dX6_setOut_11 : decode cX6_setOut 11 = .ok (.iload_n 3, 1) := by decide +kernel
theorem dX6_setOut_12 : decode cX6_setOut 12 = .ok (.putfield 46, 3) := by decide +kernel
theorem dX6_setOut_15 : decode cX6_setOut 15 = .ok (.aload_n 0, 1) := by decide +kernel
theorem dX6_setOut_16 : decode cX6_setOut 16 = .ok (.iload 4, 2) := by decide +kernel
theorem dX6_setOut_18 : decode cX6_setOut 18 = .ok (.putfield 49, 3) := by decide +kernel
theorem dX6_setOut_21 : decode cX6_setOut 21 = .ok (.return_, 1) := by decide +kernel
theorem dX6_findBest_0 : decode cX6_findBest 0 = .ok (.aload_n 0, 1) := by decide +kernel
theorem dX6_findBest_1 : decode cX6_findBest 1 = .ok (.aload_n 0, 1) := by decide +kernel
theorem dX6_findBest_2 : decode cX6_findBest 2 = .ok (.iload_n 1, 1) := by decide +kernel
theorem dX6_findBest_3 : decode cX6_findBest 3 = .ok (.iload_n 2, 1) := by decide +kernel
theorem dX6_findBest_4 : decode cX6_findBest 4 = .ok (.iload_n 3, 1) := by decide +kernel
theorem dX6_findBest_5 : decode cX6_findBest 5 = .ok (.invokevirtual 52, 3) := by decide +kernel
theorem dX6_findBest_8 : decode cX6_findBest 8 = .ok (.putfield 56, 3) := by decide +kernel
theorem dX6_findBest_11 : decode cX6_findBest 11 = .ok (.aload_n 0, 1) := by decide +kernel
theorem dX6_findBest_12 : decode cX6_findBest 12 = .ok (.getfield 56, 3) := by decide +kernel
theorem dX6_findBest_15 : decode cX6_findBest 15 = .ok (.ldc 59, 2) := by decide +kernel
theorem dX6_findBest_17 : decode cX6_findBest 17 = .ok (.if_icmp .ne 5, 3) := by decide +kernel
theorem dX6_findBest_20 : decode cX6_findBest 20 = .ok (.iconst 0, 1) := by decide +kernel
theorem dX6_findBest_21 : decode cX6_findBest 21 = .ok (.ireturn, 1) := by decide +kernel
theorem dX6_findBest_22 : decode cX6_findBest 22 = .ok (.aload_n 0, 1) := by decide +kernel
theorem dX6_findBest_23 : decode cX6_findBest 23 = .ok (.iload_n 1, 1) := by decide +kernel
theorem dX6_findBest_24 : decode cX6_findBest 24 = .ok (.iload_n 2, 1) := by decide +kernel
theorem dX6_findBest_25 : decode cX6_findBest 25 = .ok (.iload_n 3, 1) := by decide +kernel
theorem dX6_findBest_26 : decode cX6_findBest 26 = .ok (.invokevirtual 60, 3) := by decide +kernel
theorem dX6_findBest_29 : decode cX6_findBest 29 = .ok (.aload_n 0, 1) := by decide +kernel
theorem dX6_findBest_30 : decode cX6_findBest 30 = .ok (.iload_n 1, 1) := by decide +kernel
theorem dX6_findBest_31 : decode cX6_findBest 31 = .ok (.iload_n 3, 1) := by decide +kernel
theorem dX6_findBest_32 : decode cX6_findBest 32 = .ok (.invokevirtual 64, 3) := by decide +kernel
theorem dX6_findBest_35 : decode cX6_findBest 35 = .ok (.aload_n 0, 1) := by decide +kernel
theorem dX6_findBest_36 : decode cX6_findBest 36 = .ok (.iload_n 2, 1) := by decide +kernel
theorem dX6_findBest_37 : decode cX6_findBest 37 = .ok (.invokevirtual 68, 3) := by decide +kernel
theorem dX6_findBest_40 : decode cX6_findBest 40 = .ok (.iconst 1, 1) := by decide +kernel
theorem dX6_findBest_41 : decode cX6_findBest 41 = .ok (.ireturn, 1) := by decide +kernel
theorem dX6_read_0 : decode cX6_read 0 = .ok (.iload_n 1, 1) := by decide +kernel
theorem dX6_read_1 : decode cX6_read 1 = .ok (.ifCond .ne 8, 3) := by decide +kernel
theorem dX6_read_4 : decode cX6_read 4 = .ok (.aload_n 0, 1) := by decide +kernel
theorem dX6_read_5 : decode cX6_read 5 = .ok (.getfield 56, 3) := by decide +kernel
theorem dX6_read_8 : decode cX6_read 8 = .ok (.ireturn, 1) := by decide +kernel
theorem dX6_read_9 : decode cX6_read 9 = .ok (.iload_n 1, 1) := by decide +kernel
theorem dX6_read_10 : decode cX6_read 10 = .ok (.iconst 1, 1) := by decide +kernel
theorem dX6_read_11 : decode cX6_read 11 = .ok (.if_icmp .ne 8, 3) := by decide +kernel
theorem dX6_read_14 : decode cX6_read 14 = .ok (.aload_n 0, 1) := by decide +kernel
theorem dX6_read_15 : decode cX6_read 15 = .ok (.getfield 72, 3) := by decide +kernel
theorem dX6_read_18 : decode cX6_read 18 = .ok (.ireturn, 1) := by decide +kernel
theorem dX6_read_19 : decode cX6_read 19 = .ok (.iload_n 1, 1) := by decide +kernel
theorem dX6_read_20 : decode cX6_read 20 = .ok (.iconst 2, 1) := by decide +kernel
theorem dX6_read_21 : decode cX6_read 21 = .ok (.if_icmp .ne 10, 3) := by decide +kernel
theorem dX6_read_24 : decode cX6_read 24 = .ok (.aload_n 0, 1) := by decide +kernel
theorem dX6_read_25 : decode cX6_read 25 = .ok (.iconst 0, 1) := by decide +kernel
theorem dX6_read_26 : decode cX6_read 26 = .ok (.iconst 3, 1) := by decide +kernel
theorem dX6_read_27 : decode cX6_read 27 = .ok (.invokevirtual 75, 3) := by decide +kernel
theorem dX6_read_30 : decode cX6_read 30 = .ok (.ireturn, 1) := by decide +kernel
theorem dX6_read_31 : decode cX6_read 31 = .ok (.iload_n 1, 1) := by decide +kernel
theorem dX6_read_32 : decode cX6_read 32 = .ok (.bipush 10, 2) := by decide +kernel
theorem dX6_read_34 : decode cX6_read 34 = .ok (.idiv, 1) := by decide +kernel
theorem dX6_read_35 : decode cX6_read 35 = .ok (.iconst 1, 1) := by decide +kernel
theorem dX6_read_36 : decode cX6_read 36 = .ok (.isub, 1) := by decide +kernel
theorem dX6_read_37 : decode cX6_read 37 = .ok (.istore_n 2, 1) := by decide +kernel
theorem dX6_read_38 : decode cX6_read 38 = .ok (.iload_n 2, 1) := by decide +kernel
theorem dX6_read_39 : decode cX6_read 39 = .ok (.ifCond .lt 23, 3) := by decide +kernel
theorem dX6_read_42 : decode cX6_read 42 = .ok (.iload_n 2, 1) := by decide +kernel
theorem dX6_read_43 : decode cX6_read 43 = .ok (.aload_n 0, 1) := by decide +kernel
theorem dX6_read_44 : decode cX6_read 44 = .ok (.getfield 72, 3) := by decide +kernel
theorem dX6_read_47 : decode cX6_read 47 = .ok (.if_icmp .ge 15, 3) := by decide +kernel
theorem dX6_read_50 : decode cX6_read 50 = .ok (.aload_n 0, 1) := by decide +kernel
theorem dX6_read_51 : decode cX6_read 51 = .ok (.iload_n 2, 1) := by decide +kernel
theorem dX6_read_52 : decode cX6_read 52 = .ok (.iload_n 1, 1) := by decide +kernel
theorem dX6_read_53 : decode cX6_read 53 = .ok (.bipush 10, 2) := by decide +kernel
theorem dX6_read_55 : decode cX6_read 55 = .ok (.irem, 1) := by decide +kernel
theorem dX6_read_56 : decode cX6_read 56 = .ok (.invokevirtual 75, 3) := by decide +kernel
theorem dX6_read_59 : decode cX6_read 59 = .ok (.goto 4, 3) := by decide +kernel
theorem dX6_read_62 : decode cX6_read 62 = .ok (.iconst (-1), 1) := by decide +kernel
theorem dX6_read_63 : decode cX6_read 63 = .ok (.ireturn, 1) := by decide +kernel
theorem dX6_findDepartures_0 : decode cX6_findDepartures 0 = .ok (.aload_n 0, 1) := by decide +kernel
theorem dX6_findDepartures_1 : decode cX6_findDepartures 1 = .ok (.iload_n 1, 1) := by decide +kernel
theorem dX6_findDepartures_2 : decode cX6_findDepartures 2 = .ok (.invokevirtual 79, 3) := by decide +kernel
theorem dX6_findDepartures_5 : decode cX6_findDepartures 5 = .ok (.aload_n 0, 1) := by decide +kernel
theorem dX6_findDepartures_6 : decode cX6_findDepartures 6 = .ok (.iconst 0, 1) := by decide +kernel
theorem dX6_findDepartures_7 : decode cX6_findDepartures 7 = .ok (.putfield 82, 3) := by decide +kernel
theorem dX6_findDepartures_10 : decode cX6_findDepartures 10 = .ok (.ldc 59, 2) := by decide +kernel
theorem dX6_findDepartures_12 : decode cX6_findDepartures 12 = .ok (.istore_n 3, 1) := by decide +kernel
theorem dX6_findDepartures_13 : decode cX6_findDepartures 13 = .ok (.aload_n 0, 1) := by decide +kernel
theorem dX6_findDepartures_14 : decode cX6_findDepartures 14 = .ok (.getfield 85, 3) := by decide +kernel
theorem dX6_findDepartures_17 : decode cX6_findDepartures 17 = .ok (.iconst 1, 1) := by decide +kernel
theorem dX6_findDepartures_18 : decode cX6_findDepartures 18 = .ok (.isub, 1) := by decide +kernel
theorem dX6_findDepartures_19 : decode cX6_findDepartures 19 = .ok (.istore 4, 2) := by decide +kernel
theorem dX6_findDepartures_21 : decode cX6_findDepartures 21 = .ok (.iload 4, 2) := by decide +kernel
theorem dX6_findDepartures_23 : decode cX6_findDepartures 23 = .ok (.ifCond .lt 59, 3) := by decide +kernel
theorem dX6_findDepartures_26 : decode cX6_findDepartures 26 = .ok (.aload_n 0, 1) := by decide +kernel
theorem dX6_findDepartures_27 : decode cX6_findDepartures 27 = .ok (.iload_n 1, 1) := by decide +kernel
theorem dX6_findDepartures_28 : decode cX6_findDepartures 28 = .ok (.iload_n 2, 1) := by decide +kernel
theorem dX6_findDepartures_29 : decode cX6_findDepartures 29 = .ok (.aload_n 0, 1) := by decide +kernel
theorem dX6_findDepartures_30 : decode cX6_findDepartures 30 = .ok (.getfield 36, 3) := by decide +kernel
theorem dX6_findDepartures_33 : decode cX6_findDepartures 33 = .ok (.iload 4, 2) := by decide +kernel
theorem dX6_findDepartures_35 : decode cX6_findDepartures 35 = .ok (.iaload, 1) := by decide +kernel
theorem dX6_findDepartures_36 : decode cX6_findDepartures 36 = .ok (.invokevirtual 52, 3) := by decide +kernel
theorem dX6_findDepartures_39 : decode cX6_findDepartures 39 = .ok (.istore 5, 2) := by decide +kernel
theorem dX6_findDepartures_41 : decode cX6_findDepartures 41 = .ok (.iload 5, 2) := by decide +kernel
theorem dX6_findDepartures_43 : decode cX6_findDepartures 43 = .ok (.iload_n 3, 1) := by decide +kernel
theorem dX6_findDepartures_44 : decode cX6_findDepartures 44 = .ok (.if_icmp .ge 32, 3) := by decide +kernel
theorem dX6_findDepartures_47 : decode cX6_findDepartures 47 = .ok (.aload_n 0, 1) := by decide +kernel
theorem dX6_findDepartures_48 : decode cX6_findDepartures 48 = .ok (.getfield 39, 3) := by decide +kernel
theorem dX6_findDepartures_51 : decode cX6_findDepartures 51 = .ok (.aload_n 0, 1) := by decide +kernel
theorem dX6_findDepartures_52 : decode cX6_findDepartures 52 = .ok (.getfield 82, 3) := by decide +kernel
theorem dX6_findDepartures_55 : decode cX6_findDepartures 55 = .ok (.aload_n 0, 1) := by decide +kernel
theorem dX6_findDepartures_56 : decode cX6_findDepartures 56 = .ok (.getfield 36, 3) := by decide +kernel
theorem dX6_findDepartures_59 : decode cX6_findDepartures 59 = .ok (.iload 4, 2) := by decide +kernel
theorem dX6_findDepartures_61 : decode cX6_findDepartures 61 = .ok (.iaload, 1) := by decide +kernel
theorem dX6_findDepartures_62 : decode cX6_findDepartures 62 = .ok (.iastore, 1) := by decide +kernel
theorem dX6_findDepartures_63 : decode cX6_findDepartures 63 = .ok (.aload_n 0, 1) := by decide +kernel
theorem dX6_findDepartures_64 : decode cX6_findDepartures 64 = .ok (.dup, 1) := by decide +kernel
theorem dX6_findDepartures_65 : decode cX6_findDepartures 65 = .ok (.getfield 82, 3) := by decide +kernel
theorem dX6_findDepartures_68 : decode cX6_findDepartures 68 = .ok (.iconst 1, 1) := by decide +kernel
theorem dX6_findDepartures_69 : decode cX6_findDepartures 69 = .ok (.iadd, 1) := by decide +kernel
theorem dX6_findDepartures_70 : decode cX6_findDepartures 70 = .ok (.putfield 82, 3) := by decide +kernel
theorem dX6_findDepartures_73 : decode cX6_findDepartures 73 = .ok (.iload 5, 2) := by decide +kernel
theorem dX6_findDepartures_75 : decode cX6_findDepartures 75 = .ok (.istore_n 3, 1) := by decide +kernel
theorem dX6_findDepartures_76 : decode cX6_findDepartures 76 = .ok (.iinc 4 (-1), 3) := by decide +kernel
theorem dX6_findDepartures_79 : decode cX6_findDepartures 79 = .ok (.goto (-58), 3) := by decide +kernel
theorem dX6_findDepartures_82 : decode cX6_findDepartures 82 = .ok (.aload_n 0, 1) := by decide +kernel
theorem dX6_findDepartures_83 : decode cX6_findDepartures 83 = .ok (.getfield 82, 3) := by decide +kernel
theorem dX6_findDepartures_86 : decode cX6_findDepartures 86 = .ok (.ireturn, 1) := by decide +kernel
theorem dX6_departureAt_0 : decode cX6_departureAt 0 = .ok (.aload_n 0, 1) := by decide +kernel
theorem dX6_departureAt_1 : decode cX6_departureAt 1 = .ok (.getfield 39, 3) := by decide +kernel
theorem dX6_departureAt_4 : decode cX6_departureAt 4 = .ok (.aload_n 0, 1) := by decide +kernel
theorem dX6_departureAt_5 : decode cX6_departureAt 5 = .ok (.getfield 82, 3) := by decide +kernel
theorem dX6_departureAt_8 : decode cX6_departureAt 8 = .ok (.iconst 1, 1) := by decide +kernel
theorem dX6_departureAt_9 : decode cX6_departureAt 9 = .ok (.isub, 1) := by decide +kernel
theorem dX6_departureAt_10 : decode cX6_departureAt 10 = .ok (.iload_n 1, 1) := by decide +kernel
theorem dX6_departureAt_11 : decode cX6_departureAt 11 = .ok (.isub, 1) := by decide +kernel
theorem dX6_departureAt_12 : decode cX6_departureAt 12 = .ok (.iaload, 1) := by decide +kernel
theorem dX6_departureAt_13 : decode cX6_departureAt 13 = .ok (.ireturn, 1) := by decide +kernel
theorem dX6_readLeg_0 : decode cX6_readLeg 0 = .ok (.aload_n 0, 1) := by decide +kernel
theorem dX6_readLeg_1 : decode cX6_readLeg 1 = .ok (.getfield 11, 3) := by decide +kernel
theorem dX6_readLeg_4 : decode cX6_readLeg 4 = .ok (.aload_n 0, 1) := by decide +kernel
theorem dX6_readLeg_5 : decode cX6_readLeg 5 = .ok (.getfield 24, 3) := by decide +kernel
theorem dX6_readLeg_8 : decode cX6_readLeg 8 = .ok (.iload_n 1, 1) := by decide +kernel
theorem dX6_readLeg_9 : decode cX6_readLeg 9 = .ok (.iaload, 1) := by decide +kernel
theorem dX6_readLeg_10 : decode cX6_readLeg 10 = .ok (.aaload, 1) := by decide +kernel
theorem dX6_readLeg_11 : decode cX6_readLeg 11 = .ok (.astore_n 3, 1) := by decide +kernel
theorem dX6_readLeg_12 : decode cX6_readLeg 12 = .ok (.iload_n 2, 1) := by decide +kernel
theorem dX6_readLeg_13 : decode cX6_readLeg 13 = .ok (.tableswitch 90 0 4 #[35, 42, 54, 66, 78], 35) := by decide +kernel
theorem dX6_readLeg_48 : decode cX6_readLeg 48 = .ok (.aload_n 0, 1) := by decide +kernel
theorem dX6_readLeg_49 : decode cX6_readLeg 49 = .ok (.getfield 24, 3) := by decide +kernel
theorem dX6_readLeg_52 : decode cX6_readLeg 52 = .ok (.iload_n 1, 1) := by decide +kernel
theorem dX6_readLeg_53 : decode cX6_readLeg 53 = .ok (.iaload, 1) := by decide +kernel
theorem dX6_readLeg_54 : decode cX6_readLeg 54 = .ok (.ireturn, 1) := by decide +kernel
theorem dX6_readLeg_55 : decode cX6_readLeg 55 = .ok (.aload_n 3, 1) := by decide +kernel
theorem dX6_readLeg_56 : decode cX6_readLeg 56 = .ok (.getfield 88, 3) := by decide +kernel
theorem dX6_readLeg_59 : decode cX6_readLeg 59 = .ok (.aload_n 0, 1) := by decide +kernel
theorem dX6_readLeg_60 : decode cX6_readLeg 60 = .ok (.getfield 30, 3) := by decide +kernel
theorem dX6_readLeg_63 : decode cX6_readLeg 63 = .ok (.iload_n 1, 1) := by decide +kernel
theorem dX6_readLeg_64 : decode cX6_readLeg 64 = .ok (.iaload, 1) := by decide +kernel
theorem dX6_readLeg_65 : decode cX6_readLeg 65 = .ok (.iaload, 1) := by decide +kernel
theorem dX6_readLeg_66 : decode cX6_readLeg 66 = .ok (.ireturn, 1) := by decide +kernel
theorem dX6_readLeg_67 : decode cX6_readLeg 67 = .ok (.aload_n 3, 1) := by decide +kernel
theorem dX6_readLeg_68 : decode cX6_readLeg 68 = .ok (.getfield 88, 3) := by decide +kernel
theorem dX6_readLeg_71 : decode cX6_readLeg 71 = .ok (.aload_n 0, 1) := by decide +kernel
theorem dX6_readLeg_72 : decode cX6_readLeg 72 = .ok (.getfield 33, 3) := by decide +kernel
theorem dX6_readLeg_75 : decode cX6_readLeg 75 = .ok (.iload_n 1, 1) := by decide +kernel
theorem dX6_readLeg_76 : decode cX6_readLeg 76 = .ok (.iaload, 1) := by decide +kernel
theorem dX6_readLeg_77 : decode cX6_readLeg 77 = .ok (.iaload, 1) := by decide +kernel
theorem dX6_readLeg_78 : decode cX6_readLeg 78 = .ok (.ireturn, 1) := by decide +kernel
theorem dX6_readLeg_79 : decode cX6_readLeg 79 = .ok (.aload_n 3, 1) := by decide +kernel
theorem dX6_readLeg_80 : decode cX6_readLeg 80 = .ok (.getfield 91, 3) := by decide +kernel
theorem dX6_readLeg_83 : decode cX6_readLeg 83 = .ok (.aload_n 0, 1) := by decide +kernel
theorem dX6_readLeg_84 : decode cX6_readLeg 84 = .ok (.getfield 30, 3) := by decide +kernel
theorem dX6_readLeg_87 : decode cX6_readLeg 87 = .ok (.iload_n 1, 1) := by decide +kernel
theorem dX6_readLeg_88 : decode cX6_readLeg 88 = .ok (.iaload, 1) := by decide +kernel
theorem dX6_readLeg_89 : decode cX6_readLeg 89 = .ok (.iaload, 1) := by decide +kernel
theorem dX6_readLeg_90 : decode cX6_readLeg 90 = .ok (.ireturn, 1) := by decide +kernel
theorem dX6_readLeg_91 : decode cX6_readLeg 91 = .ok (.aload_n 3, 1) := by decide +kernel
theorem dX6_readLeg_92 : decode cX6_readLeg 92 = .ok (.getfield 94, 3) := by decide +kernel
theorem dX6_readLeg_95 : decode cX6_readLeg 95 = .ok (.aload_n 0, 1) := by decide +kernel
theorem dX6_readLeg_96 : decode cX6_readLeg 96 = .ok (.getfield 33, 3) := by decide +kernel
theorem dX6_readLeg_99 : decode cX6_readLeg 99 = .ok (.iload_n 1, 1) := by decide +kernel
theorem dX6_readLeg_100 : decode cX6_readLeg 100 = .ok (.iaload, 1) := by decide +kernel
theorem dX6_readLeg_101 : decode cX6_readLeg 101 = .ok (.iaload, 1) := by decide +kernel
theorem dX6_readLeg_102 : decode cX6_readLeg 102 = .ok (.ireturn, 1) := by decide +kernel
theorem dX6_readLeg_103 : decode cX6_readLeg 103 = .ok (.iconst (-1), 1) := by decide +kernel
theorem dX6_readLeg_104 : decode cX6_readLeg 104 = .ok (.ireturn, 1) := by decide +kernel
theorem dX6_soonestAt_0 : decode cX6_soonestAt 0 = .ok (.aload_n 0, 1) := by decide +kernel
theorem dX6_soonestAt_1 : decode cX6_soonestAt 1 = .ok (.getfield 17, 3) := by decide +kernel
theorem dX6_soonestAt_4 : decode cX6_soonestAt 4 = .ok (.ldc 59, 2) := by decide +kernel
theorem dX6_soonestAt_6 : decode cX6_soonestAt 6 = .ok (.invokestatic 97, 3) := by decide +kernel
theorem dX6_soonestAt_9 : decode cX6_soonestAt 9 = .ok (.aload_n 0, 1) := by decide +kernel
theorem dX6_soonestAt_10 : decode cX6_soonestAt 10 = .ok (.getfield 17, 3) := by decide +kernel
theorem dX6_soonestAt_13 : decode cX6_soonestAt 13 = .ok (.iload_n 1, 1) := by decide +kernel
theorem dX6_soonestAt_14 : decode cX6_soonestAt 14 = .ok (.iload_n 3, 1) := by decide +kernel
theorem dX6_soonestAt_15 : decode cX6_soonestAt 15 = .ok (.aload_n 0, 1) := by decide +kernel
theorem dX6_soonestAt_16 : decode cX6_soonestAt 16 = .ok (.getfield 49, 3) := by decide +kernel
theorem dX6_soonestAt_19 : decode cX6_soonestAt 19 = .ok (.isub, 1) := by decide +kernel
theorem dX6_soonestAt_20 : decode cX6_soonestAt 20 = .ok (.iastore, 1) := by decide +kernel
theorem dX6_soonestAt_21 : decode cX6_soonestAt 21 = .ok (.iconst 1, 1) := by decide +kernel
theorem dX6_soonestAt_22 : decode cX6_soonestAt 22 = .ok (.istore 4, 2) := by decide +kernel
theorem dX6_soonestAt_24 : decode cX6_soonestAt 24 = .ok (.iconst 0, 1) := by decide +kernel
theorem dX6_soonestAt_25 : decode cX6_soonestAt 25 = .ok (.istore 5, 2) := by decide +kernel
theorem dX6_soonestAt_27 : decode cX6_soonestAt 27 = .ok (.iload 5, 2) := by decide +kernel
theorem dX6_soonestAt_29 : decode cX6_soonestAt 29 = .ok (.aload_n 0, 1) := by decide +kernel
theorem dX6_soonestAt_30 : decode cX6_soonestAt 30 = .ok (.getfield 42, 3) := by decide +kernel
theorem dX6_soonestAt_33 : decode cX6_soonestAt 33 = .ok (.if_icmp .ge 76, 3) := by decide +kernel
theorem dX6_soonestAt_36 : decode cX6_soonestAt 36 = .ok (.iload 4, 2) := by decide +kernel
theorem dX6_soonestAt_38 : decode cX6_soonestAt 38 = .ok (.ifCond .eq 71, 3) := by decide +kernel
theorem dX6_soonestAt_41 : decode cX6_soonestAt 41 = .ok (.iconst 0, 1) := by decide +kernel
theorem dX6_soonestAt_42 : decode cX6_soonestAt 42 = .ok (.istore 4, 2) := by decide +kernel
theorem dX6_soonestAt_44 : decode cX6_soonestAt 44 = .ok (.iconst 0, 1) := by decide +kernel
theorem dX6_soonestAt_45 : decode cX6_soonestAt 45 = .ok (.istore 6, 2) := by decide +kernel
theorem dX6_soonestAt_47 : decode cX6_soonestAt 47 = .ok (.iload 6, 2) := by decide +kernel
theorem dX6_soonestAt_49 : decode cX6_soonestAt 49 = .ok (.aload_n 0, 1) := by decide +kernel
theorem dX6_soonestAt_50 : decode cX6_soonestAt 50 = .ok (.getfield 42, 3) := by decide +kernel
theorem dX6_soonestAt_53 : decode cX6_soonestAt 53 = .ok (.if_icmp .ge 50, 3) := by decide +kernel
theorem dX6_soonestAt_56 : decode cX6_soonestAt 56 = .ok (.iload 4, 2) := by decide +kernel
theorem dX6_soonestAt_58 : decode cX6_soonestAt 58 = .ok (.aload_n 0, 1) := by decide +kernel
theorem dX6_soonestAt_59 : decode cX6_soonestAt 59 = .ok (.getfield 11, 3) := by decide +kernel
theorem dX6_soonestAt_62 : decode cX6_soonestAt 62 = .ok (.iload 6, 2) := by decide +kernel
theorem dX6_soonestAt_64 : decode cX6_soonestAt 64 = .ok (.aaload, 1) := by decide +kernel
theorem dX6_soonestAt_65 : decode cX6_soonestAt 65 = .ok (.aload_n 0, 1) := by decide +kernel
theorem dX6_soonestAt_66 : decode cX6_soonestAt 66 = .ok (.getfield 46, 3) := by decide +kernel
theorem dX6_soonestAt_69 : decode cX6_soonestAt 69 = .ok (.invokevirtual 103, 3) := by decide +kernel
theorem dX6_soonestAt_72 : decode cX6_soonestAt 72 = .ok (.ifCond .eq 21, 3) := by decide +kernel
theorem dX6_soonestAt_75 : decode cX6_soonestAt 75 = .ok (.aload_n 0, 1) := by decide +kernel
theorem dX6_soonestAt_76 : decode cX6_soonestAt 76 = .ok (.aload_n 0, 1) := by decide +kernel
theorem dX6_soonestAt_77 : decode cX6_soonestAt 77 = .ok (.getfield 11, 3) := by decide +kernel
theorem dX6_soonestAt_80 : decode cX6_soonestAt 80 = .ok (.iload 6, 2) := by decide +kernel
theorem dX6_soonestAt_82 : decode cX6_soonestAt 82 = .ok (.aaload, 1) := by decide +kernel
theorem dX6_soonestAt_83 : decode cX6_soonestAt 83 = .ok (.invokevirtual 107, 3) := by decide +kernel
theorem dX6_soonestAt_86 : decode cX6_soonestAt 86 = .ok (.ifCond .eq 7, 3) := by decide +kernel
theorem dX6_soonestAt_89 : decode cX6_soonestAt 89 = .ok (.iconst 1, 1) := by decide +kernel
theorem dX6_soonestAt_90 : decode cX6_soonestAt 90 = .ok (.goto 4, 3) := by decide +kernel
theorem dX6_soonestAt_93 : decode cX6_soonestAt 93 = .ok (.iconst 0, 1) := by decide +kernel
theorem dX6_soonestAt_94 : decode cX6_soonestAt 94 = .ok (.ior, 1) := by decide +kernel
theorem dX6_soonestAt_95 : decode cX6_soonestAt 95 = .ok (.istore 4, 2) := by decide +kernel
theorem dX6_soonestAt_97 : decode cX6_soonestAt 97 = .ok (.iinc 6 1, 3) := by decide +kernel
theorem dX6_soonestAt_100 : decode cX6_soonestAt 100 = .ok (.goto (-53), 3) := by decide +kernel
theorem dX6_soonestAt_103 : decode cX6_soonestAt 103 = .ok (.iinc 5 1, 3) := by decide +kernel
theorem dX6_soonestAt_106 : decode cX6_soonestAt 106 = .ok (.goto (-79), 3) := by decide +kernel
theorem dX6_soonestAt_109 : decode cX6_soonestAt 109 = .ok (.aload_n 0, 1) := by decide +kernel
theorem dX6_soonestAt_110 : decode cX6_soonestAt 110 = .ok (.getfield 17, 3) := by decide +kernel
theorem dX6_soonestAt_113 : decode cX6_soonestAt 113 = .ok (.iload_n 2, 1) := by decide +kernel
theorem dX6_soonestAt_114 : decode cX6_soonestAt 114 = .ok (.iaload, 1) := by decide +kernel
theorem dX6_soonestAt_115 : decode cX6_soonestAt 115 = .ok (.ireturn, 1) := by decide +kernel
theorem dX6_ride_0 : decode cX6_ride 0 = .ok (.iconst 0, 1) := by decide +kernel
theorem dX6_ride_1 : decode cX6_ride 1 = .ok (.istore_n 2, 1) := by decide +kernel
theorem dX6_ride_2 : decode cX6_ride 2 = .ok (.iconst 0, 1) := by decide +kernel
theorem dX6_ride_3 : decode cX6_ride 3 = .ok (.istore_n 3, 1) := by decide +kernel
theorem dX6_ride_4 : decode cX6_ride 4 = .ok (.iconst 0, 1) := by decide +kernel
theorem dX6_ride_5 : decode cX6_ride 5 = .ok (.istore 4, 2) := by decide +kernel
theorem dX6_ride_7 : decode cX6_ride 7 = .ok (.iload 4, 2) := by decide +kernel
theorem dX6_ride_9 : decode cX6_ride 9 = .ok (.aload_n 1, 1) := by decide +kernel
theorem dX6_ride_10 : decode cX6_ride 10 = .ok (.getfield 111, 3) := by decide +kernel
theorem dX6_ride_13 : decode cX6_ride 13 = .ok (.if_icmp .ge 85, 3) := by decide +kernel
theorem dX6_ride_16 : decode cX6_ride 16 = .ok (.aload_n 1, 1) := by decide +kernel
theorem dX6_ride_17 : decode cX6_ride 17 = .ok (.getfield 88, 3) := by decide +kernel
theorem dX6_ride_20 : decode cX6_ride 20 = .ok (.iload 4, 2) := by decide +kernel
theorem dX6_ride_22 : decode cX6_ride 22 = .ok (.iaload, 1) := by decide +kernel
theorem dX6_ride_23 : decode cX6_ride 23 = .ok (.istore 5, 2) := by decide +kernel
theorem dX6_ride_25 : decode cX6_ride 25 = .ok (.iload_n 2, 1) := by decide +kernel
theorem dX6_ride_26 : decode cX6_ride 26 = .ok (.ifCond .eq 36, 3) := by decide +kernel
theorem dX6_ride_29 : decode cX6_ride 29 = .ok (.aload_n 1, 1) := by decide +kernel
theorem dX6_ride_30 : decode cX6_ride 30 = .ok (.getfield 94, 3) := by decide +kernel
theorem dX6_ride_33 : decode cX6_ride 33 = .ok (.iload 4, 2) := by decide +kernel
theorem dX6_ride_35 : decode cX6_ride 35 = .ok (.iaload, 1) := by decide +kernel
theorem dX6_ride_36 : decode cX6_ride 36 = .ok (.aload_n 0, 1) := by decide +kernel
theorem dX6_ride_37 : decode cX6_ride 37 = .ok (.getfield 17, 3) := by decide +kernel
theorem dX6_ride_40 : decode cX6_ride 40 = .ok (.iload 5, 2) := by decide +kernel
theorem dX6_ride_42 : decode cX6_ride 42 = .ok (.iaload, 1) := by decide +kernel
theorem dX6_ride_43 : decode cX6_ride 43 = .ok (.if_icmp .ge 19, 3) := by decide +kernel
theorem dX6_ride_46 : decode cX6_ride 46 = .ok (.aload_n 0, 1) := by decide +kernel
theorem dX6_ride_47 : decode cX6_ride 47 = .ok (.getfield 17, 3) := by decide +kernel
theorem dX6_ride_50 : decode cX6_ride 50 = .ok (.iload 5, 2) := by decide +kernel
theorem dX6_ride_52 : decode cX6_ride 52 = .ok (.aload_n 1, 1) := by decide +kernel
theorem dX6_ride_53 : decode cX6_ride 53 = .ok (.getfield 94, 3) := by decide +kernel
theorem dX6_ride_56 : decode cX6_ride 56 = .ok (.iload 4, 2) := by decide +kernel
theorem dX6_ride_58 : decode cX6_ride 58 = .ok (.iaload, 1) := by decide +kernel
theorem dX6_ride_59 : decode cX6_ride 59 = .ok (.iastore, 1) := by decide +kernel
theorem dX6_ride_60 : decode cX6_ride 60 = .ok (.iconst 1, 1) := by decide +kernel
theorem dX6_ride_61 : decode cX6_ride 61 = .ok (.istore_n 3, 1) := by decide +kernel
theorem dX6_ride_62 : decode cX6_ride 62 = .ok (.iload_n 2, 1) := by decide +kernel
theorem dX6_ride_63 : decode cX6_ride 63 = .ok (.aload_n 0, 1) := by decide +kernel
theorem dX6_ride_64 : decode cX6_ride 64 = .ok (.getfield 17, 3) := by decide +kernel
theorem dX6_ride_67 : decode cX6_ride 67 = .ok (.iload 5, 2) := by decide +kernel
theorem dX6_ride_69 : decode cX6_ride 69 = .ok (.iaload, 1) := by decide +kernel
theorem dX6_ride_70 : decode cX6_ride 70 = .ok (.aload_n 0, 1) := by decide +kernel
theorem dX6_ride_71 : decode cX6_ride 71 = .ok (.getfield 49, 3) := by decide +kernel
theorem dX6_ride_74 : decode cX6_ride 74 = .ok (.iadd, 1) := by decide +kernel
theorem dX6_ride_75 : decode cX6_ride 75 = .ok (.aload_n 1, 1) := by decide +kernel
theorem dX6_ride_76 : decode cX6_ride 76 = .ok (.getfield 91, 3) := by decide +kernel
theorem dX6_ride_79 : decode cX6_ride 79 = .ok (.iload 4, 2) := by decide +kernel
theorem dX6_ride_81 : decode cX6_ride 81 = .ok (.iaload, 1) := by decide +kernel
theorem dX6_ride_82 : decode cX6_ride 82 = .ok (.if_icmp .gt 7, 3) := by decide +kernel
theorem dX6_ride_85 : decode cX6_ride 85 = .ok (.iconst 1, 1) := by decide +kernel
theorem dX6_ride_86 : decode cX6_ride 86 = .ok (.goto 4, 3) := by decide +kernel
theorem dX6_ride_89 : decode cX6_ride 89 = .ok (.iconst 0, 1) := by decide +kernel
theorem dX6_ride_90 : decode cX6_ride 90 = .ok (.ior, 1) := by decide +kernel
theorem dX6_ride_91 : decode cX6_ride 91 = .ok (.istore_n 2, 1) := by decide +kernel
theorem dX6_ride_92 : decode cX6_ride 92 = .ok (.iinc 4 1, 3) := by decide +kernel
theorem dX6_ride_95 : decode cX6_ride 95 = .ok (.goto (-88), 3) := by decide +kernel
theorem dX6_ride_98 : decode cX6_ride 98 = .ok (.iload_n 3, 1) := by decide +kernel
theorem dX6_ride_99 : decode cX6_ride 99 = .ok (.ireturn, 1) := by decide +kernel
theorem dX6_countLegs_0 : decode cX6_countLegs 0 = .ok (.iconst 0, 1) := by decide +kernel
theorem dX6_countLegs_1 : decode cX6_countLegs 1 = .ok (.istore 4, 2) := by decide +kernel
theorem dX6_countLegs_3 : decode cX6_countLegs 3 = .ok (.iload 4, 2) := by decide +kernel
theorem dX6_countLegs_5 : decode cX6_countLegs 5 = .ok (.aload_n 0, 1) := by decide +kernel
theorem dX6_countLegs_6 : decode cX6_countLegs 6 = .ok (.getfield 42, 3) := by decide +kernel
theorem dX6_countLegs_9 : decode cX6_countLegs 9 = .ok (.if_icmp .ge 49, 3) := by decide +kernel
theorem dX6_countLegs_12 : decode cX6_countLegs 12 = .ok (.aload_n 0, 1) := by decide +kernel
theorem dX6_countLegs_13 : decode cX6_countLegs 13 = .ok (.getfield 21, 3) := by decide +kernel
theorem dX6_countLegs_16 : decode cX6_countLegs 16 = .ok (.iload 4, 2) := by decide +kernel
theorem dX6_countLegs_18 : decode cX6_countLegs 18 = .ok (.aload_n 0, 1) := by decide +kernel
theorem dX6_countLegs_19 : decode cX6_countLegs 19 = .ok (.getfield 11, 3) := by decide +kernel
theorem dX6_countLegs_22 : decode cX6_countLegs 22 = .ok (.iload 4, 2) := by decide +kernel
theorem dX6_countLegs_24 : decode cX6_countLegs 24 = .ok (.aaload, 1) := by decide +kernel
theorem dX6_countLegs_25 : decode cX6_countLegs 25 = .ok (.aload_n 0, 1) := by decide +kernel
theorem dX6_countLegs_26 : decode cX6_countLegs 26 = .ok (.getfield 46, 3) := by decide +kernel
theorem dX6_countLegs_29 : decode cX6_countLegs 29 = .ok (.invokevirtual 103, 3) := by decide +kernel
theorem dX6_countLegs_32 : decode cX6_countLegs 32 = .ok (.ifCond .eq 18, 3) := by decide +kernel
theorem dX6_countLegs_35 : decode cX6_countLegs 35 = .ok (.aload_n 0, 1) := by decide +kernel
theorem dX6_countLegs_36 : decode cX6_countLegs 36 = .ok (.aload_n 0, 1) := by decide +kernel
theorem dX6_countLegs_37 : decode cX6_countLegs 37 = .ok (.getfield 11, 3) := by decide +kernel
theorem dX6_countLegs_40 : decode cX6_countLegs 40 = .ok (.iload 4, 2) := by decide +kernel
theorem dX6_countLegs_42 : decode cX6_countLegs 42 = .ok (.aaload, 1) := by decide +kernel
theorem dX6_countLegs_43 : decode cX6_countLegs 43 = .ok (.iload_n 2, 1) := by decide +kernel
theorem dX6_countLegs_44 : decode cX6_countLegs 44 = .ok (.invokevirtual 114, 3) := by decide +kernel
theorem dX6_countLegs_47 : decode cX6_countLegs 47 = .ok (.goto 4, 3) := by decide +kernel
theorem dX6_countLegs_50 : decode cX6_countLegs 50 = .ok (.iconst (-1), 1) := by decide +kernel
theorem dX6_countLegs_51 : decode cX6_countLegs 51 = .ok (.iastore, 1) := by decide +kernel
theorem dX6_countLegs_52 : decode cX6_countLegs 52 = .ok (.iinc 4 1, 3) := by decide +kernel
