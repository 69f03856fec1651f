theorem dX7_departures_11 : decode cX7_departures 11 = .ok (.aload_n 0, 1) := by decide +kernel
theorem dX7_departures_12 : decode cX7_departures 12 = .ok (.getfield 32, 3) := by decide +kernel
theorem dX7_departures_15 : decode cX7_departures 15 = .ok (.aload_n 0, 1) := by decide +kernel
theorem dX7_departures_16 : decode cX7_departures 16 = .ok (.getfield 11, 3) := by decide +kernel
theorem dX7_departures_19 : decode cX7_departures 19 = .ok (.aload_n 0, 1) := by decide +kernel
theorem dX7_departures_20 : decode cX7_departures 20 = .ok (.getfield 45, 3) := by decide +kernel
theorem dX7_departures_23 : decode cX7_departures 23 = .ok (.iload_n 3, 1) := by decide +kernel
theorem dX7_departures_24 : decode cX7_departures 24 = .ok (.aload_n 0, 1) := by decide +kernel
theorem dX7_departures_25 : decode cX7_departures 25 = .ok (.getfield 36, 3) := by decide +kernel
theorem dX7_departures_28 : decode cX7_departures 28 = .ok (.invokevirtual 146, 3) := by decide +kernel
theorem dX7_departures_31 : decode cX7_departures 31 = .ok (.aload_n 0, 1) := by decide +kernel
theorem dX7_departures_32 : decode cX7_departures 32 = .ok (.getfield 32, 3) := by decide +kernel
theorem dX7_departures_35 : decode cX7_departures 35 = .ok (.iload_n 1, 1) := by decide +kernel
theorem dX7_departures_36 : decode cX7_departures 36 = .ok (.iload_n 2, 1) := by decide +kernel
theorem dX7_departures_37 : decode cX7_departures 37 = .ok (.invokevirtual 154, 3) := by decide +kernel
theorem dX7_departures_40 : decode cX7_departures 40 = .ok (.ireturn, 1) := by decide +kernel
theorem dX7_departure_0 : decode cX7_departure 0 = .ok (.iload_n 1, 1) := by decide +kernel
theorem dX7_departure_1 : decode cX7_departure 1 = .ok (.iload_n 2, 1) := by decide +kernel
theorem dX7_departure_2 : decode cX7_departure 2 = .ok (.iload_n 3, 1) := by decide +kernel
theorem dX7_departure_3 : decode cX7_departure 3 = .ok (.invokestatic 143, 3) := by decide +kernel
theorem dX7_departure_6 : decode cX7_departure 6 = .ok (.ifCond .ne 5, 3) := by decide +kernel
theorem dX7_departure_9 : decode cX7_departure 9 = .ok (.iconst (-1), 1) := by decide +kernel
theorem dX7_departure_10 : decode cX7_departure 10 = .ok (.ireturn, 1) := by decide +kernel
theorem dX7_departure_11 : decode cX7_departure 11 = .ok (.aload_n 0, 1) := by decide +kernel
theorem dX7_departure_12 : decode cX7_departure 12 = .ok (.getfield 32, 3) := by decide +kernel
theorem dX7_departure_15 : decode cX7_departure 15 = .ok (.aload_n 0, 1) := by decide +kernel
theorem dX7_departure_16 : decode cX7_departure 16 = .ok (.getfield 11, 3) := by decide +kernel
theorem dX7_departure_19 : decode cX7_departure 19 = .ok (.aload_n 0, 1) := by decide +kernel
theorem dX7_departure_20 : decode cX7_departure 20 = .ok (.getfield 45, 3) := by decide +kernel
theorem dX7_departure_23 : decode cX7_departure 23 = .ok (.iload_n 3, 1) := by decide +kernel
theorem dX7_departure_24 : decode cX7_departure 24 = .ok (.aload_n 0, 1) := by decide +kernel
theorem dX7_departure_25 : decode cX7_departure 25 = .ok (.getfield 36, 3) := by decide +kernel
theorem dX7_departure_28 : decode cX7_departure 28 = .ok (.invokevirtual 146, 3) := by decide +kernel
theorem dX7_departure_31 : decode cX7_departure 31 = .ok (.aload_n 0, 1) := by decide +kernel
theorem dX7_departure_32 : decode cX7_departure 32 = .ok (.getfield 32, 3) := by decide +kernel
theorem dX7_departure_35 : decode cX7_departure 35 = .ok (.iload_n 1, 1) := by decide +kernel
theorem dX7_departure_36 : decode cX7_departure 36 = .ok (.iload_n 2, 1) := by decide +kernel
theorem dX7_departure_37 : decode cX7_departure 37 = .ok (.invokevirtual 154, 3) := by decide +kernel
theorem dX7_departure_40 : decode cX7_departure 40 = .ok (.istore 5, 2) := by decide +kernel
theorem dX7_departure_42 : decode cX7_departure 42 = .ok (.iload 4, 2) := by decide +kernel
theorem dX7_departure_44 : decode cX7_departure 44 = .ok (.ifCond .lt 22, 3) := by decide +kernel
theorem dX7_departure_47 : decode cX7_departure 47 = .ok (.iload 4, 2) := by decide +kernel
theorem dX7_departure_49 : decode cX7_departure 49 = .ok (.iload 5, 2) := by decide +kernel
theorem dX7_departure_51 : decode cX7_departure 51 = .ok (.if_icmp .ge 15, 3) := by decide +kernel
theorem dX7_departure_54 : decode cX7_departure 54 = .ok (.aload_n 0, 1) := by decide +kernel
theorem dX7_departure_55 : decode cX7_departure 55 = .ok (.getfield 32, 3) := by decide +kernel
theorem dX7_departure_58 : decode cX7_departure 58 = .ok (.iload 4, 2) := by decide +kernel
theorem dX7_departure_60 : decode cX7_departure 60 = .ok (.invokevirtual 158, 3) := by decide +kernel
theorem dX7_departure_63 : decode cX7_departure 63 = .ok (.goto 4, 3) := by decide +kernel
theorem dX7_departure_66 : decode cX7_departure 66 = .ok (.iconst (-1), 1) := by decide +kernel
theorem dX7_departure_67 : decode cX7_departure 67 = .ok (.ireturn, 1) := by decide +kernel
theorem dX7_areDays_0 : decode cX7_areDays 0 = .ok (.iload_n 0, 1) := by decide +kernel
theorem dX7_areDays_1 : decode cX7_areDays 1 = .ok (.ifCond .le 13, 3) := by decide +kernel
theorem dX7_areDays_4 : decode cX7_areDays 4 = .ok (.iload_n 0, 1) := by decide +kernel
theorem dX7_areDays_5 : decode cX7_areDays 5 = .ok (.bipush 127, 2) := by decide +kernel
theorem dX7_areDays_7 : decode cX7_areDays 7 = .ok (.if_icmp .gt 7, 3) := by decide +kernel
theorem dX7_areDays_10 : decode cX7_areDays 10 = .ok (.iconst 1, 1) := by decide +kernel
theorem dX7_areDays_11 : decode cX7_areDays 11 = .ok (.goto 4, 3) := by decide +kernel
theorem dX7_areDays_14 : decode cX7_areDays 14 = .ok (.iconst 0, 1) := by decide +kernel
theorem dX7_areDays_15 : decode cX7_areDays 15 = .ok (.ireturn, 1) := by decide +kernel
theorem dX7_isStation_0 : decode cX7_isStation 0 = .ok (.iload_n 0, 1) := by decide +kernel
theorem dX7_isStation_1 : decode cX7_isStation 1 = .ok (.ifCond .lt 13, 3) := by decide +kernel
theorem dX7_isStation_4 : decode cX7_isStation 4 = .ok (.iload_n 0, 1) := by decide +kernel
theorem dX7_isStation_5 : decode cX7_isStation 5 = .ok (.bipush 12, 2) := by decide +kernel
theorem dX7_isStation_7 : decode cX7_isStation 7 = .ok (.if_icmp .ge 7, 3) := by decide +kernel
theorem dX7_isStation_10 : decode cX7_isStation 10 = .ok (.iconst 1, 1) := by decide +kernel
theorem dX7_isStation_11 : decode cX7_isStation 11 = .ok (.goto 4, 3) := by decide +kernel
theorem dX7_isStation_14 : decode cX7_isStation 14 = .ok (.iconst 0, 1) := by decide +kernel
theorem dX7_isStation_15 : decode cX7_isStation 15 = .ok (.ireturn, 1) := by decide +kernel
theorem dX7_canTravel_0 : decode cX7_canTravel 0 = .ok (.iload_n 0, 1) := by decide +kernel
theorem dX7_canTravel_1 : decode cX7_canTravel 1 = .ok (.invokestatic 55, 3) := by decide +kernel
theorem dX7_canTravel_4 : decode cX7_canTravel 4 = .ok (.ifCond .eq 29, 3) := by decide +kernel
theorem dX7_canTravel_7 : decode cX7_canTravel 7 = .ok (.iload_n 1, 1) := by decide +kernel
theorem dX7_canTravel_8 : decode cX7_canTravel 8 = .ok (.invokestatic 55, 3) := by decide +kernel
theorem dX7_canTravel_11 : decode cX7_canTravel 11 = .ok (.ifCond .eq 22, 3) := by decide +kernel
theorem dX7_canTravel_14 : decode cX7_canTravel 14 = .ok (.iload_n 0, 1) := by decide +kernel
theorem dX7_canTravel_15 : decode cX7_canTravel 15 = .ok (.iload_n 1, 1) := by decide +kernel
theorem dX7_canTravel_16 : decode cX7_canTravel 16 = .ok (.if_icmp .eq 17, 3) := by decide +kernel
theorem dX7_canTravel_19 : decode cX7_canTravel 19 = .ok (.iload_n 2, 1) := by decide +kernel
theorem dX7_canTravel_20 : decode cX7_canTravel 20 = .ok (.ifCond .lt 13, 3) := by decide +kernel
theorem dX7_canTravel_23 : decode cX7_canTravel 23 = .ok (.iload_n 2, 1) := by decide +kernel
theorem dX7_canTravel_24 : decode cX7_canTravel 24 = .ok (.bipush 7, 2) := by decide +kernel
theorem dX7_canTravel_26 : decode cX7_canTravel 26 = .ok (.if_icmp .ge 7, 3) := by decide +kernel
theorem dX7_canTravel_29 : decode cX7_canTravel 29 = .ok (.iconst 1, 1) := by decide +kernel
theorem dX7_canTravel_30 : decode cX7_canTravel 30 = .ok (.goto 4, 3) := by decide +kernel
theorem dX7_canTravel_33 : decode cX7_canTravel 33 = .ok (.iconst 0, 1) := by decide +kernel
theorem dX7_canTravel_34 : decode cX7_canTravel 34 = .ok (.ireturn, 1) := by decide +kernel
theorem dX7_trainOf_0 : decode cX7_trainOf 0 = .ok (.iload_n 1, 1) := by decide +kernel
theorem dX7_trainOf_1 : decode cX7_trainOf 1 = .ok (.ifCond .lt 20, 3) := by decide +kernel
theorem dX7_trainOf_4 : decode cX7_trainOf 4 = .ok (.iload_n 1, 1) := by decide +kernel
theorem dX7_trainOf_5 : decode cX7_trainOf 5 = .ok (.aload_n 0, 1) := by decide +kernel
theorem dX7_trainOf_6 : decode cX7_trainOf 6 = .ok (.getfield 45, 3) := by decide +kernel
theorem dX7_trainOf_9 : decode cX7_trainOf 9 = .ok (.if_icmp .ge 12, 3) := by decide +kernel
theorem dX7_trainOf_12 : decode cX7_trainOf 12 = .ok (.aload_n 0, 1) := by decide +kernel
theorem dX7_trainOf_13 : decode cX7_trainOf 13 = .ok (.getfield 11, 3) := by decide +kernel
theorem dX7_trainOf_16 : decode cX7_trainOf 16 = .ok (.iload_n 1, 1) := by decide +kernel
theorem dX7_trainOf_17 : decode cX7_trainOf 17 = .ok (.aaload, 1) := by decide +kernel
theorem dX7_trainOf_18 : decode cX7_trainOf 18 = .ok (.goto 4, 3) := by decide +kernel
theorem dX7_trainOf_21 : decode cX7_trainOf 21 = .ok (.aconst_null, 1) := by decide +kernel
theorem dX7_trainOf_22 : decode cX7_trainOf 22 = .ok (.areturn, 1) := by decide +kernel
theorem dX7_aboutBook_0 : decode cX7_aboutBook 0 = .ok (.iload_n 1, 1) := by decide +kernel
theorem dX7_aboutBook_1 : decode cX7_aboutBook 1 = .ok (.tableswitch 57 0 3 #[31, 36, 41, 49], 31) := by decide +kernel
theorem dX7_aboutBook_32 : decode cX7_aboutBook 32 = .ok (.aload_n 0, 1) := by decide +kernel
theorem dX7_aboutBook_33 : decode cX7_aboutBook 33 = .ok (.getfield 45, 3) := by decide +kernel
theorem dX7_aboutBook_36 : decode cX7_aboutBook 36 = .ok (.ireturn, 1) := by decide +kernel
theorem dX7_aboutBook_37 : decode cX7_aboutBook 37 = .ok (.aload_n 0, 1) := by decide +kernel
theorem dX7_aboutBook_38 : decode cX7_aboutBook 38 = .ok (.getfield 36, 3) := by decide +kernel
theorem dX7_aboutBook_41 : decode cX7_aboutBook 41 = .ok (.ireturn, 1) := by decide +kernel
theorem dX7_aboutBook_42 : decode cX7_aboutBook 42 = .ok (.aload_n 0, 1) := by decide +kernel
theorem dX7_aboutBook_43 : decode cX7_aboutBook 43 = .ok (.getfield 25, 3) := by decide +kernel
theorem dX7_aboutBook_46 : decode cX7_aboutBook 46 = .ok (.invokevirtual 105, 3) := by decide +kernel
theorem dX7_aboutBook_49 : decode cX7_aboutBook 49 = .ok (.ireturn, 1) := by decide +kernel
theorem dX7_aboutBook_50 : decode cX7_aboutBook 50 = .ok (.aload_n 0, 1) := by decide +kernel
theorem dX7_aboutBook_51 : decode cX7_aboutBook 51 = .ok (.getfield 25, 3) := by decide +kernel
theorem dX7_aboutBook_54 : decode cX7_aboutBook 54 = .ok (.invokevirtual 161, 3) := by decide +kernel
theorem dX7_aboutBook_57 : decode cX7_aboutBook 57 = .ok (.ireturn, 1) := by decide +kernel
theorem dX7_aboutBook_58 : decode cX7_aboutBook 58 = .ok (.iconst (-1), 1) := by decide +kernel
theorem dX7_aboutBook_59 : decode cX7_aboutBook 59 = .ok (.ireturn, 1) := by decide +kernel
theorem dX7_canBeTable_0 : decode cX7_canBeTable 0 = .ok (.iload_n 1, 1) := by decide +kernel
theorem dX7_canBeTable_1 : decode cX7_canBeTable 1 = .ok (.ifCond .le 22, 3) := by decide +kernel
theorem dX7_canBeTable_4 : decode cX7_canBeTable 4 = .ok (.iload_n 1, 1) := by decide +kernel
theorem dX7_canBeTable_5 : decode cX7_canBeTable 5 = .ok (.iconst 1, 1) := by decide +kernel
theorem dX7_canBeTable_6 : decode cX7_canBeTable 6 = .ok (.aload_n 0, 1) := by decide +kernel
theorem dX7_canBeTable_7 : decode cX7_canBeTable 7 = .ok (.getfield 45, 3) := by decide +kernel
theorem dX7_canBeTable_10 : decode cX7_canBeTable 10 = .ok (.ishl, 1) := by decide +kernel
theorem dX7_canBeTable_11 : decode cX7_canBeTable 11 = .ok (.if_icmp .ge 12, 3) := by decide +kernel
theorem dX7_canBeTable_14 : decode cX7_canBeTable 14 = .ok (.iload_n 1, 1) := by decide +kernel
theorem dX7_canBeTable_15 : decode cX7_canBeTable 15 = .ok (.invokestatic 93, 3) := by decide +kernel
theorem dX7_canBeTable_18 : decode cX7_canBeTable 18 = .ok (.bipush 6, 2) := by decide +kernel
theorem dX7_canBeTable_20 : decode cX7_canBeTable 20 = .ok (.if_icmp .le 5, 3) := by decide +kernel
theorem dX7_canBeTable_23 : decode cX7_canBeTable 23 = .ok (.iconst 0, 1) := by decide +kernel
theorem dX7_canBeTable_24 : decode cX7_canBeTable 24 = .ok (.ireturn, 1) := by decide +kernel
theorem dX7_canBeTable_25 : decode cX7_canBeTable 25 = .ok (.iconst 0, 1) := by decide +kernel
theorem dX7_canBeTable_26 : decode cX7_canBeTable 26 = .ok (.istore_n 2, 1) := by decide +kernel
theorem dX7_canBeTable_27 : decode cX7_canBeTable 27 = .ok (.iload_n 2, 1) := by decide +kernel
theorem dX7_canBeTable_28 : decode cX7_canBeTable 28 = .ok (.aload_n 0, 1) := by decide +kernel
theorem dX7_canBeTable_29 : decode cX7_canBeTable 29 = .ok (.getfield 45, 3) := by decide +kernel
theorem dX7_canBeTable_32 : decode cX7_canBeTable 32 = .ok (.if_icmp .ge 32, 3) := by decide +kernel
theorem dX7_canBeTable_35 : decode cX7_canBeTable 35 = .ok (.iload_n 1, 1) := by decide +kernel
theorem dX7_canBeTable_36 : decode cX7_canBeTable 36 = .ok (.iload_n 2, 1) := by decide +kernel
theorem dX7_canBeTable_37 : decode cX7_canBeTable 37 = .ok (.ishr, 1) := by decide +kernel
theorem dX7_canBeTable_38 : decode cX7_canBeTable 38 = .ok (.iconst 1, 1) := by decide +kernel
theorem dX7_canBeTable_39 : decode cX7_canBeTable 39 = .ok (.iand, 1) := by decide +kernel
theorem dX7_canBeTable_40 : decode cX7_canBeTable 40 = .ok (.ifCond .eq 18, 3) := by decide +kernel
theorem dX7_canBeTable_43 : decode cX7_canBeTable 43 = .ok (.aload_n 0, 1) := by decide +kernel
theorem dX7_canBeTable_44 : decode cX7_canBeTable 44 = .ok (.getfield 11, 3) := by decide +kernel
theorem dX7_canBeTable_47 : decode cX7_canBeTable 47 = .ok (.iload_n 2, 1) := by decide +kernel
theorem dX7_canBeTable_48 : decode cX7_canBeTable 48 = .ok (.aaload, 1) := by decide +kernel
theorem dX7_canBeTable_49 : decode cX7_canBeTable 49 = .ok (.getfield 66, 3) := by decide +kernel
theorem dX7_canBeTable_52 : decode cX7_canBeTable 52 = .ok (.iconst 2, 1) := by decide +kernel
theorem dX7_canBeTable_53 : decode cX7_canBeTable 53 = .ok (.if_icmp .ge 5, 3) := by decide +kernel
theorem dX7_canBeTable_56 : decode cX7_canBeTable 56 = .ok (.iconst 0, 1) := by decide +kernel
theorem dX7_canBeTable_57 : decode cX7_canBeTable 57 = .ok (.ireturn, 1) := by decide +kernel
theorem dX7_canBeTable_58 : decode cX7_canBeTable 58 = .ok (.iinc 2 1, 3) := by decide +kernel
theorem dX7_canBeTable_61 : decode cX7_canBeTable 61 = .ok (.goto (-34), 3) := by decide +kernel
theorem dX7_canBeTable_64 : decode cX7_canBeTable 64 = .ok (.iconst 1, 1) := by decide +kernel
theorem dX7_canBeTable_65 : decode cX7_canBeTable 65 = .ok (.ireturn, 1) := by decide +kernel
theorem dX8_init_0 : decode cX8_init 0 = .ok (.aload_n 0, 1) := by decide +kernel
theorem dX8_init_1 : decode cX8_init 1 = .ok (.invokespecial 1, 3) := by decide +kernel
theorem dX8_init_4 : decode cX8_init 4 = .ok (.aload_n 0, 1) := by decide +kernel
theorem dX8_init_5 : decode cX8_init 5 = .ok (.iconst 5, 1) := by decide +kernel
theorem dX8_init_6 : decode cX8_init 6 = .ok (.putfield 7, 3) := by decide +kernel
theorem dX8_init_9 : decode cX8_init 9 = .ok (.aload_n 0, 1) := by decide +kernel
theorem dX8_init_10 : decode cX8_init 10 = .ok (.bipush 10, 2) := by decide +kernel
theorem dX8_init_12 : decode cX8_init 12 = .ok (.newarray .int, 2) := by decide +kernel
theorem dX8_init_14 : decode cX8_init 14 = .ok (.putfield 13, 3) := by decide +kernel
theorem dX8_init_17 : decode cX8_init 17 = .ok (.aload_n 0, 1) := by decide +kernel
theorem dX8_init_18 : decode cX8_init 18 = .ok (.bipush 10, 2) := by decide +kernel
theorem dX8_init_20 : decode cX8_init 20 = .ok (.newarray .int, 2) := by decide +kernel
theorem dX8_init_22 : decode cX8_init 22 = .ok (.putfield 17, 3) := by decide +kernel
theorem dX8_init_25 : decode cX8_init 25 = .ok (.aload_n 0, 1) := by decide +kernel
theorem dX8_init_26 : decode cX8_init 26 = .ok (.bipush 70, 2) := by decide +kernel
theorem dX8_init_28 : decode cX8_init 28 = .ok (.newarray .int, 2) := by decide +kernel
theorem dX8_init_30 : decode cX8_init 30 = .ok (.putfield 20, 3) := by decide +kernel
theorem dX8_init_33 : decode cX8_init 33 = .ok (.aload_n 0, 1) := by decide +kernel
theorem dX8_init_34 : decode cX8_init 34 = .ok (.bipush 70, 2) := by decide +kernel
theorem dX8_init_36 : decode cX8_init 36 = .ok (.newarray .int, 2) := by decide +kernel
theorem dX8_init_38 : decode cX8_init 38 = .ok (.putfield 23, 3) := by decide +kernel
theorem dX8_init_41 : decode cX8_init 41 = .ok (.aload_n 0, 1) := by decide +kernel
theorem dX8_init_42 : decode cX8_init 42 = .ok (.bipush 70, 2) := by decide +kernel
theorem dX8_init_44 : decode cX8_init 44 = .ok (.newarray .int, 2) := by decide +kernel
theorem dX8_init_46 : decode cX8_init 46 = .ok (.putfield 26, 3) := by decide +kernel
theorem dX8_init_49 : decode cX8_init 49 = .ok (.aload_n 0, 1) := by decide +kernel
theorem dX8_init_50 : decode cX8_init 50 = .ok (.bipush 13, 2) := by decide +kernel
theorem dX8_init_52 : decode cX8_init 52 = .ok (.newarray .int, 2) := by decide +kernel
theorem dX8_init_54 : decode cX8_init 54 = .ok (.dup, 1) := by decide +kernel
theorem dX8_init_55 : decode cX8_init 55 = .ok (.iconst 0, 1) := by decide +kernel
theorem dX8_init_56 : decode cX8_init 56 = .ok (.iconst 1, 1) := by decide +kernel
theorem dX8_init_57 : decode cX8_init 57 = .ok (.iastore, 1) := by decide +kernel
theorem dX8_init_58 : decode cX8_init 58 = .ok (.dup, 1) := by decide +kernel
theorem dX8_init_59 : decode cX8_init 59 = .ok (.iconst 1, 1) := by decide +kernel
theorem dX8_init_60 : decode cX8_init 60 = .ok (.iconst 2, 1) := by decide +kernel
theorem dX8_init_61 : decode cX8_init 61 = .ok (.iastore, 1) := by decide +kernel
theorem dX8_init_62 : decode cX8_init 62 = .ok (.dup, 1) := by decide +kernel
theorem dX8_init_63 : decode cX8_init 63 = .ok (.iconst 2, 1) := by decide +kernel
theorem dX8_init_64 : decode cX8_init 64 = .ok (.iconst 4, 1) := by decide +kernel
theorem dX8_init_65 : decode cX8_init 65 = .ok (.iastore, 1) := by decide +kernel
theorem dX8_init_66 : decode cX8_init 66 = .ok (.dup, 1) := by decide +kernel
theorem dX8_init_67 : decode cX8_init 67 = .ok (.iconst 3, 1) := by decide +kernel
theorem dX8_init_68 : decode cX8_init 68 = .ok (.bipush 8, 2) := by decide +kernel
theorem dX8_init_70 : decode cX8_init 70 = .ok (.iastore, 1) := by decide +kernel
theorem dX8_init_71 : decode cX8_init 71 = .ok (.dup, 1) := by decide +kernel
theorem dX8_init_72 : decode cX8_init 72 = .ok (.iconst 4, 1) := by decide +kernel
theorem dX8_init_73 : decode cX8_init 73 = .ok (.bipush 16, 2) := by decide +kernel
theorem dX8_init_75 : decode cX8_init 75 = .ok (.iastore, 1) := by decide +kernel
theorem dX8_init_76 : decode cX8_init 76 = .ok (.dup, 1) := by decide +kernel
theorem dX8_init_77 : decode cX8_init 77 = .ok (.iconst 5, 1) := by decide +kernel
theorem dX8_init_78 : decode cX8_init 78 = .ok (.bipush 32, 2) := by decide +kernel
theorem dX8_init_80 : decode cX8_init 80 = .ok (.iastore, 1) := by decide +kernel
theorem dX8_init_81 : decode cX8_init 81 = .ok (.dup, 1) := by decide +kernel
theorem dX8_init_82 : decode cX8_init 82 = .ok (.bipush 6, 2) := by decide +kernel
theorem dX8_init_84 : decode cX8_init 84 = .ok (.bipush 64, 2) := by decide +kernel
theorem dX8_init_86 : decode cX8_init 86 = .ok (.iastore, 1) := by decide +kernel
theorem dX8_init_87 : decode cX8_init 87 = .ok (.dup, 1) := by decide +kernel
theorem dX8_init_88 : decode cX8_init 88 = .ok (.bipush 7, 2) := by decide +kernel
theorem dX8_init_90 : decode cX8_init 90 = .ok (.iconst 0, 1) := by decide +kernel
theorem dX8_init_91 : decode cX8_init 91 = .ok (.iastore, 1) := by decide +kernel
theorem dX8_init_92 : decode cX8_init 92 = .ok (.dup, 1) := by decide +kernel
theorem dX8_init_93 : decode cX8_init 93 = .ok (.bipush 8, 2) := by decide +kernel
theorem dX8_init_95 : decode cX8_init 95 = .ok (.iconst 0, 1) := by decide +kernel
theorem dX8_init_96 : decode cX8_init 96 = .ok (.iastore, 1) := by decide +kernel
theorem dX8_init_97 : decode cX8_init 97 = .ok (.dup, 1) := by decide +kernel
theorem dX8_init_98 : decode cX8_init 98 = .ok (.bipush 9, 2) := by decide +kernel
theorem dX8_init_100 : decode cX8_init 100 = .ok (.iconst 0, 1) := by decide +kernel
theorem dX8_init_101 : decode cX8_init 101 = .ok (.iastore, 1) := by decide +kernel
theorem dX8_init_102 : decode cX8_init 102 = .ok (.dup, 1) := by decide +kernel
theorem dX8_init_103 : decode cX8_init 103 = .ok (.bipush 10, 2) := by decide +kernel
theorem dX8_init_105 : decode cX8_init 105 = .ok (.iconst 0, 1) := by decide +kernel
theorem dX8_init_106 : decode cX8_init 106 = .ok (.iastore, 1) := by decide +kernel
theorem dX8_init_107 : decode cX8_init 107 = .ok (.dup, 1) := by decide +kernel
theorem dX8_init_108 : decode cX8_init 108 = .ok (.bipush 11, 2) := by decide +kernel
theorem dX8_init_110 : decode cX8_init 110 = .ok (.iconst 0, 1) := by decide +kernel
theorem dX8_init_111 : decode cX8_init 111 = .ok (.iastore, 1) := by decide +kernel
theorem dX8_init_112 : decode cX8_init 112 = .ok (.dup, 1) := by decide +kernel
theorem dX8_init_113 : decode cX8_init 113 = .ok (.bipush 12, 2) := by decide +kernel
theorem dX8_init_115 : decode cX8_init 115 = .ok (.iconst 0, 1) := by decide +kernel
theorem dX8_init_116 : decode cX8_init 116 = .ok (.iastore, 1) := by decide +kernel
theorem dX8_init_117 : decode cX8_init 117 = .ok (.putfield 29, 3) := by decide +kernel
theorem dX8_init_120 : decode cX8_init 120 = .ok (.aload_n 0, 1) := by decide +kernel
theorem dX8_init_121 : decode cX8_init 121 = .ok (.bipush 42, 2) := by decide +kernel
theorem dX8_init_123 : decode cX8_init 123 = .ok (.newarray .int, 2) := by decide +kernel
theorem dX8_init_125 : decode cX8_init 125 = .ok (.putfield 32, 3) := by decide +kernel
theorem dX8_init_128 : decode cX8_init 128 = .ok (.aload_n 0, 1) := by decide +kernel
theorem dX8_init_129 : decode cX8_init 129 = .ok (.bipush 6, 2) := by decide +kernel
theorem dX8_init_131 : decode cX8_init 131 = .ok (.newarray .int, 2) := by decide +kernel
theorem dX8_init_133 : decode cX8_init 133 = .ok (.putfield 35, 3) := by decide +kernel
theorem dX8_init_136 : decode cX8_init 136 = .ok (.aload_n 0, 1) := by decide +kernel
theorem dX8_init_137 : decode cX8_init 137 = .ok (.bipush 6, 2) := by decide +kernel
theorem dX8_init_139 : decode cX8_init 139 = .ok (.newarray .int, 2) := by decide +kernel
theorem dX8_init_141 : decode cX8_init 141 = .ok (.putfield 38, 3) := by decide +kernel
theorem dX8_init_144 : decode cX8_init 144 = .ok (.aload_n 0, 1) := by decide +kernel
theorem dX8_init_145 : decode cX8_init 145 = .ok (.bipush 42, 2) := by decide +kernel
theorem dX8_init_147 : decode cX8_init 147 = .ok (.newarray .int, 2) := by decide +kernel
theorem dX8_init_149 : decode cX8_init 149 = .ok (.putfield 41, 3) := by decide +kernel
theorem dX8_init_152 : decode cX8_init 152 = .ok (.aload_n 0, 1) := by decide +kernel
theorem dX8_init_153 : decode cX8_init 153 = .ok (.bipush 42, 2) := by decide +kernel
theorem dX8_init_155 : decode cX8_init 155 = .ok (.newarray .int, 2) := by decide +kernel
theorem dX8_init_157 : decode cX8_init 157 = .ok (.putfield 44, 3) := by decide +kernel
theorem dX8_init_160 : decode cX8_init 160 = .ok (.aload_n 0, 1) := by decide +kernel
theorem dX8_init_161 : decode cX8_init 161 = .ok (.bipush 42, 2) := by decide +kernel
theorem dX8_init_163 : decode cX8_init 163 = .ok (.newarray .int, 2) := by decide +kernel
theorem dX8_init_165 : decode cX8_init 165 = .ok (.putfield 47, 3) := by decide +kernel
theorem dX8_init_168 : decode cX8_init 168 = .ok (.aload_n 0, 1) := by decide +kernel
theorem dX8_init_169 : decode cX8_init 169 = .ok (.bipush 42, 2) := by decide +kernel
theorem dX8_init_171 : decode cX8_init 171 = .ok (.newarray .int, 2) := by decide +kernel
theorem dX8_init_173 : decode cX8_init 173 = .ok (.putfield 50, 3) := by decide +kernel
theorem dX8_init_176 : decode cX8_init 176 = .ok (.aload_n 0, 1) := by decide +kernel
theorem dX8_init_177 : decode cX8_init 177 = .ok (.bipush 6, 2) := by decide +kernel
theorem dX8_init_179 : decode cX8_init 179 = .ok (.newarray .int, 2) := by decide +kernel
theorem dX8_init_181 : decode cX8_init 181 = .ok (.putfield 53, 3) := by decide +kernel
theorem dX8_init_184 : decode cX8_init 184 = .ok (.aload_n 0, 1) := by decide +kernel
theorem dX8_init_185 : decode cX8_init 185 = .ok (.bipush 6, 2) := by decide +kernel
theorem dX8_init_187 : decode cX8_init 187 = .ok (.newarray .int, 2) := by decide +kernel
theorem dX8_init_189 : decode cX8_init 189 = .ok (.putfield 56, 3) := by decide +kernel
theorem dX8_init_192 : decode cX8_init 192 = .ok (.aload_n 0, 1) := by decide +kernel
theorem dX8_init_193 : decode cX8_init 193 = .ok (.ldc 59, 2) := by decide +kernel
theorem dX8_init_195 : decode cX8_init 195 = .ok (.newarray .int, 2) := by decide +kernel
theorem dX8_init_197 : decode cX8_init 197 = .ok (.putfield 60, 3) := by decide +kernel
theorem dX8_init_200 : decode cX8_init 200 = .ok (.aload_n 0, 1) := by decide +kernel
theorem dX8_init_201 : decode cX8_init 201 = .ok (.bipush 6, 2) := by decide +kernel
theorem dX8_init_203 : decode cX8_init 203 = .ok (.newarray .int, 2) := by decide +kernel
theorem dX8_init_205 : decode cX8_init 205 = .ok (.putfield 63, 3) := by decide +kernel
theorem dX8_init_208 : decode cX8_init 208 = .ok (.aload_n 0, 1) := by decide +kernel
theorem dX8_init_209 : decode cX8_init 209 = .ok (.bipush 70, 2) := by decide +kernel
theorem dX8_init_211 : decode cX8_init 211 = .ok (.newarray .boolean, 2) := by decide +kernel
theorem dX8_init_213 : decode cX8_init 213 = .ok (.putfield 66, 3) := by decide +kernel
theorem dX8_init_216 : decode cX8_init 216 = .ok (.aload_n 0, 1) := by decide +kernel
theorem dX8_init_217 : decode cX8_init 217 = .ok (.sipush 770, 3) := by decide +kernel
theorem dX8_init_220 : decode cX8_init 220 = .ok (.newarray .boolean, 2) := by decide +kernel
theorem dX8_init_222 : decode cX8_init 222 = .ok (.putfield 70, 3) := by decide +kernel
theorem dX8_init_225 : decode cX8_init 225 = .ok (.aload_n 0, 1) := by decide +kernel
theorem dX8_init_226 : decode cX8_init 226 = .ok (.bipush 10, 2) := by decide +kernel
theorem dX8_init_228 : decode cX8_init 228 = .ok (.newarray .int, 2) := by decide +kernel
theorem dX8_init_230 : decode cX8_init 230 = .ok (.putfield 73, 3) := by decide +kernel
theorem dX8_init_233 : decode cX8_init 233 = .ok (.aload_n 0, 1) := by decide +kernel
theorem dX8_init_234 : decode cX8_init 234 = .ok (.bipush 10, 2) := by decide +kernel
theorem dX8_init_236 : decode cX8_init 236 = .ok (.newarray .int, 2) := by decide +kernel
theorem dX8_init_238 : decode cX8_init 238 = .ok (.putfield 76, 3) := by decide +kernel
theorem dX8_init_241 : decode cX8_init 241 = .ok (.aload_n 0, 1) := by decide +kernel
theorem dX8_init_242 : decode cX8_init 242 = .ok (.bipush 10, 2) := by decide +kernel
theorem dX8_init_244 : decode cX8_init 244 = .ok (.newarray .int, 2) := by decide +kernel
theorem dX8_init_246 : decode cX8_init 246 = .ok (.putfield 79, 3) := by decide +kernel
theorem dX8_init_249 : decode cX8_init 249 = .ok (.aload_n 0, 1) := by decide +kernel
theorem dX8_init_250 : decode cX8_init 250 = .ok (.bipush 70, 2) := by decide +kernel
theorem dX8_init_252 : decode cX8_init 252 = .ok (.newarray .boolean, 2) := by decide +kernel
theorem dX8_init_254 : decode cX8_init 254 = .ok (.putfield 82, 3) := by decide +kernel
theorem dX8_init_257 : decode cX8_init 257 = .ok (.aload_n 0, 1) := by decide +kernel
theorem dX8_init_258 : decode cX8_init 258 = .ok (.bipush 70, 2) := by decide +kernel
theorem dX8_init_260 : decode cX8_init 260 = .ok (.newarray .boolean, 2) := by decide +kernel
theorem dX8_init_262 : decode cX8_init 262 = .ok (.putfield 85, 3) := by decide +kernel
theorem dX8_init_265 : decode cX8_init 265 = .ok (.aload_n 0, 1) := by decide +kernel
theorem dX8_init_266 : decode cX8_init 266 = .ok (.bipush 70, 2) := by decide +kernel
theorem dX8_init_268 : decode cX8_init 268 = .ok (.newarray .boolean, 2) := by decide +kernel
theorem dX8_init_270 : decode cX8_init 270 = .ok (.putfield 88, 3) := by decide +kernel
theorem dX8_init_273 : decode cX8_init 273 = .ok (.aload_n 0, 1) := by decide +kernel
theorem dX8_init_274 : decode cX8_init 274 = .ok (.bipush 10, 2) := by decide +kernel
theorem dX8_init_276 : decode cX8_init 276 = .ok (.newarray .int, 2) := by decide +kernel
theorem dX8_init_278 : decode cX8_init 278 = .ok (.putfield 91, 3) := by decide +kernel
theorem dX8_init_281 : decode cX8_init 281 = .ok (.return_, 1) := by decide +kernel
theorem dX8_isTrain_0 : decode cX8_isTrain 0 = .ok (.iload_n 1, 1) := by decide +kernel
theorem dX8_isTrain_1 : decode cX8_isTrain 1 = .ok (.ifCond .lt 15, 3) := by decide +kernel
theorem dX8_isTrain_4 : decode cX8_isTrain 4 = .ok (.iload_n 1, 1) := by decide +kernel
theorem dX8_isTrain_5 : decode cX8_isTrain 5 = .ok (.aload_n 0, 1) := by decide +kernel
theorem dX8_isTrain_6 : decode cX8_isTrain 6 = .ok (.getfield 97, 3) := by decide +kernel
theorem dX8_isTrain_9 : decode cX8_isTrain 9 = .ok (.if_icmp .ge 7, 3) := by decide +kernel
theorem dX8_isTrain_12 : decode cX8_isTrain 12 = .ok (.iconst 1, 1) := by decide +kernel
theorem dX8_isTrain_13 : decode cX8_isTrain 13 = .ok (.goto 4, 3) := by decide +kernel
theorem dX8_isTrain_16 : decode cX8_isTrain 16 = .ok (.iconst 0, 1) := by decide +kernel
theorem dX8_isTrain_17 : decode cX8_isTrain 17 = .ok (.ireturn, 1) := by decide +kernel
theorem dX8_isStation_0 : decode cX8_isStation 0 = .ok (.iload_n 1, 1) := by decide +kernel
theorem dX8_isStation_1 : decode cX8_isStation 1 = .ok (.ifCond .lt 13, 3) := by decide +kernel
theorem dX8_isStation_4 : decode cX8_isStation 4 = .ok (.iload_n 1, 1) := by decide +kernel
theorem dX8_isStation_5 : decode cX8_isStation 5 = .ok (.bipush 12, 2) := by decide +kernel
theorem dX8_isStation_7 : decode cX8_isStation 7 = .ok (.if_icmp .ge 7, 3) := by decide +kernel
theorem dX8_isStation_10 : decode cX8_isStation 10 = .ok (.iconst 1, 1) := by decide +kernel
theorem dX8_isStation_11 : decode cX8_isStation 11 = .ok (.goto 4, 3) := by decide +kernel
theorem dX8_isStation_14 : decode cX8_isStation 14 = .ok (.iconst 0, 1) := by decide +kernel
theorem dX8_isStation_15 : decode cX8_isStation 15 = .ok (.ireturn, 1) := by decide +kernel
theorem dX8_isMinute_0 : decode cX8_isMinute 0 = .ok (.iload_n 1, 1) := by decide +kernel
theorem dX8_isMinute_1 : decode cX8_isMinute 1 = .ok (.ifCond .lt 14, 3) := by decide +kernel
theorem dX8_isMinute_4 : decode cX8_isMinute 4 = .ok (.iload_n 1, 1) := by decide +kernel
theorem dX8_isMinute_5 : decode cX8_isMinute 5 = .ok (.sipush 1440, 3) := by decide +kernel
theorem dX8_isMinute_8 : decode cX8_isMinute 8 = .ok (.if_icmp .ge 7, 3) := by decide +kernel
theorem dX8_isMinute_11 : decode cX8_isMinute 11 = .ok (.iconst 1, 1) := by decide +kernel
theorem dX8_isMinute_12 : decode cX8_isMinute 12 = .ok (.goto 4, 3) := by decide +kernel
theorem dX8_isMinute_15 : decode cX8_isMinute 15 = .ok (.iconst 0, 1) := by decide +kernel
theorem dX8_isMinute_16 : decode cX8_isMinute 16 = .ok (.ireturn, 1) := by decide +kernel
theorem dX8_isDays_0 : decode cX8_isDays 0 = .ok (.iload_n 1, 1) := by decide +kernel
theorem dX8_isDays_1 : decode cX8_isDays 1 = .ok (.iconst 1, 1) := by decide +kernel
theorem dX8_isDays_2 : decode cX8_isDays 2 = .ok (.if_icmp .lt 13, 3) := by decide +kernel
theorem dX8_isDays_5 : decode cX8_isDays 5 = .ok (.iload_n 1, 1) := by decide +kernel
theorem dX8_isDays_6 : decode cX8_isDays 6 = .ok (.bipush 127, 2) := by decide +kernel
theorem dX8_isDays_8 : decode cX8_isDays 8 = .ok (.if_icmp .gt 7, 3) := by decide +kernel
theorem dX8_isDays_11 : decode cX8_isDays 11 = .ok (.iconst 1, 1) := by decide +kernel
theorem dX8_isDays_12 : decode cX8_isDays 12 = .ok (.goto 4, 3) := by decide +kernel
theorem dX8_isDays_15 : decode cX8_isDays 15 = .ok (.iconst 0, 1) := by decide +kernel
theorem dX8_isDays_16 : decode cX8_isDays 16 = .ok (.ireturn, 1) := by decide +kernel
theorem dX8_train_0 : decode cX8_train 0 = .ok (.aload_n 0, 1) := by decide +kernel
theorem dX8_train_1 : decode cX8_train 1 = .ok (.iconst 0, 1) := by decide +kernel
theorem dX8_train_2 : decode cX8_train 2 = .ok (.putfield 94, 3) := by decide +kernel
theorem dX8_train_5 : decode cX8_train 5 = .ok (.aload_n 0, 1) := by decide +kernel
theorem dX8_train_6 : decode cX8_train 6 = .ok (.iload_n 1, 1) := by decide +kernel
theorem dX8_train_7 : decode cX8_train 7 = .ok (.invokevirtual 100, 3) := by decide +kernel
theorem dX8_train_10 : decode cX8_train 10 = .ok (.ifCond .eq 12, 3) := by decide +kernel
theorem dX8_train_13 : decode cX8_train 13 = .ok (.aload_n 0, 1) := by decide +kernel
theorem dX8_train_14 : decode cX8_train 14 = .ok (.getfield 97, 3) := by decide +kernel
theorem dX8_train_17 : decode cX8_train 17 = .ok (.bipush 10, 2) := by decide +kernel
theorem dX8_train_19 : decode cX8_train 19 = .ok (.if_icmp .ne 5, 3) := by decide +kernel
theorem dX8_train_22 : decode cX8_train 22 = .ok (.iconst (-1), 1) := by decide +kernel
theorem dX8_train_23 : decode cX8_train 23 = .ok (.ireturn, 1) := by decide +kernel
theorem dX8_train_24 : decode cX8_train 24 = .ok (.aload_n 0, 1) := by decide +kernel
theorem dX8_train_25 : decode cX8_train 25 = .ok (.getfield 13, 3) := by decide +kernel
theorem dX8_train_28 : decode cX8_train 28 = .ok (.aload_n 0, 1) := by decide +kernel
theorem dX8_train_29 : decode cX8_train 29 = .ok (.getfield 97, 3) := by decide +kernel
theorem dX8_train_32 : decode cX8_train 32 = .ok (.iload_n 1, 1) := by decide +kernel
theorem dX8_train_33 : decode cX8_train 33 = .ok (.iastore, 1) := by decide +kernel
theorem dX8_train_34 : decode cX8_train 34 = .ok (.aload_n 0, 1) := by decide +kernel
theorem dX8_train_35 : decode cX8_train 35 = .ok (.aload_n 0, 1) := by decide +kernel
theorem dX8_train_36 : decode cX8_train 36 = .ok (.getfield 97, 3) := by decide +kernel
theorem dX8_train_39 : decode cX8_train 39 = .ok (.iconst 1, 1) := by decide +kernel
theorem dX8_train_40 : decode cX8_train 40 = .ok (.iadd, 1) := by decide +kernel
theorem dX8_train_41 : decode cX8_train 41 = .ok (.putfield 97, 3) := by decide +kernel
theorem dX8_train_44 : decode cX8_train 44 = .ok (.aload_n 0, 1) := by decide +kernel
theorem dX8_train_45 : decode cX8_train 45 = .ok (.getfield 97, 3) := by decide +kernel
theorem dX8_train_48 : decode cX8_train 48 = .ok (.iconst 1, 1) := by decide +kernel
theorem dX8_train_49 : decode cX8_train 49 = .ok (.isub, 1) := by decide +kernel
theorem dX8_train_50 : decode cX8_train 50 = .ok (.ireturn, 1) := by decide +kernel
theorem dX8_stopAt_0 : decode cX8_stopAt 0 = .ok (.iconst 0, 1) := by decide +kernel
theorem dX8_stopAt_1 : decode cX8_stopAt 1 = .ok (.istore_n 3, 1) := by decide +kernel
theorem dX8_stopAt_2 : decode cX8_stopAt 2 = .ok (.iload_n 3, 1) := by decide +kernel
theorem dX8_stopAt_3 : decode cX8_stopAt 3 = .ok (.aload_n 0, 1) := by decide +kernel
theorem dX8_stopAt_4 : decode cX8_stopAt 4 = .ok (.getfield 17, 3) := by decide +kernel
theorem dX8_stopAt_7 : decode cX8_stopAt 7 = .ok (.iload_n 1, 1) := by decide +kernel
theorem dX8_stopAt_8 : decode cX8_stopAt 8 = .ok (.iaload, 1) := by decide +kernel
theorem dX8_stopAt_9 : decode cX8_stopAt 9 = .ok (.if_icmp .ge 26, 3) := by decide +kernel
theorem dX8_stopAt_12 : decode cX8_stopAt 12 = .ok (.aload_n 0, 1) := by decide +kernel
theorem dX8_stopAt_13 : decode cX8_stopAt 13 = .ok (.getfield 20, 3) := by decide +kernel
theorem dX8_stopAt_16 : decode cX8_stopAt 16 = .ok (.bipush 7, 2) := by decide +kernel
theorem dX8_stopAt_18 : decode cX8_stopAt 18 = .ok (.iload_n 1, 1) := by decide +kernel
theorem dX8_stopAt_19 : decode cX8_stopAt 19 = .ok (.imul, 1) := by decide +kernel
theorem dX8_stopAt_20 : decode cX8_stopAt 20 = .ok (.iload_n 3, 1) := by decide +kernel
theorem dX8_stopAt_21 : decode cX8_stopAt 21 = .ok (.iadd, 1) := by decide +kernel
theorem dX8_stopAt_22 : decode cX8_stopAt 22 = .ok (.iaload, 1) := by decide +kernel
theorem dX8_stopAt_23 : decode cX8_stopAt 23 = .ok (.iload_n 2, 1) := by decide +kernel
theorem dX8_stopAt_24 : decode cX8_stopAt 24 = .ok (.if_icmp .ne 5, 3) := by decide +kernel
theorem dX8_stopAt_27 : decode cX8_stopAt 27 = .ok (.iload_n 3, 1) := by decide +kernel
theorem dX8_stopAt_28 : decode cX8_stopAt 28 = .ok (.ireturn, 1) := by decide +kernel
theorem dX8_stopAt_29 : decode cX8_stopAt 29 = .ok (.iinc 3 1, 3) := by decide +kernel
theorem dX8_stopAt_32 : decode cX8_stopAt 32 = .ok (.goto (-30), 3) := by decide +kernel
theorem dX8_stopAt_35 : decode cX8_stopAt 35 = .ok (.iconst (-1), 1) := by decide +kernel
theorem dX8_stopAt_36 : decode cX8_stopAt 36 = .ok (.ireturn, 1) := by decide +kernel
theorem dX8_stop_0 : decode cX8_stop 0 = .ok (.aload_n 0, 1) := by decide +kernel
theorem dX8_stop_1 : decode cX8_stop 1 = .ok (.iconst 0, 1) := by decide +kernel
theorem dX8_stop_2 : decode cX8_stop 2 = .ok (.putfield 94, 3) := by decide +kernel
theorem dX8_stop_5 : decode cX8_stop 5 = .ok (.aload_n 0, 1) := by decide +kernel
theorem dX8_stop_6 : decode cX8_stop 6 = .ok (.iload_n 1, 1) := by decide +kernel
theorem dX8_stop_7 : decode cX8_stop 7 = .ok (.invokevirtual 104, 3) := by decide +kernel
theorem dX8_stop_10 : decode cX8_stop 10 = .ok (.ifCond .eq 55, 3) := by decide +kernel
theorem dX8_stop_13 : decode cX8_stop 13 = .ok (.aload_n 0, 1) := by decide +kernel
theorem dX8_stop_14 : decode cX8_stop 14 = .ok (.iload_n 2, 1) := by decide +kernel
theorem dX8_stop_15 : decode cX8_stop 15 = .ok (.invokevirtual 107, 3) := by decide +kernel
theorem dX8_stop_18 : decode cX8_stop 18 = .ok (.ifCond .eq 47, 3) := by decide +kernel
theorem dX8_stop_21 : decode cX8_stop 21 = .ok (.aload_n 0, 1) := by decide +kernel
theorem dX8_stop_22 : decode cX8_stop 22 = .ok (.iload_n 3, 1) := by decide +kernel
theorem dX8_stop_23 : decode cX8_stop 23 = .ok (.invokevirtual 110, 3) := by decide +kernel
theorem dX8_stop_26 : decode cX8_stop 26 = .ok (.ifCond .eq 39, 3) := by decide +kernel
theorem dX8_stop_29 : decode cX8_stop 29 = .ok (.aload_n 0, 1) := by decide +kernel
theorem dX8_stop_30 : decode cX8_stop 30 = .ok (.iload 4, 2) := by decide +kernel
theorem dX8_stop_32 : decode cX8_stop 32 = .ok (.invokevirtual 110, 3) := by decide +kernel
theorem dX8_stop_35 : decode cX8_stop 35 = .ok (.ifCond .eq 30, 3) := by decide +kernel
theorem dX8_stop_38 : decode cX8_stop 38 = .ok (.iload 4, 2) := by decide +kernel
theorem dX8_stop_40 : decode cX8_stop 40 = .ok (.iload_n 3, 1) := by decide +kernel
theorem dX8_stop_41 : decode cX8_stop 41 = .ok (.if_icmp .lt 24, 3) := by decide +kernel
theorem dX8_stop_44 : decode cX8_stop 44 = .ok (.aload_n 0, 1) := by decide +kernel
theorem dX8_stop_45 : decode cX8_stop 45 = .ok (.getfield 17, 3) := by decide +kernel
theorem dX8_stop_48 : decode cX8_stop 48 = .ok (.iload_n 1, 1) := by decide +kernel
theorem dX8_stop_49 : decode cX8_stop 49 = .ok (.iaload, 1) := by decide +kernel
theorem dX8_stop_50 : decode cX8_stop 50 = .ok (.bipush 7, 2) := by decide +kernel
theorem dX8_stop_52 : decode cX8_stop 52 = .ok (.if_icmp .eq 13, 3) := by decide +kernel
theorem dX8_stop_55 : decode cX8_stop 55 = .ok (.aload_n 0, 1) := by decide +kernel
theorem dX8_stop_56 : decode cX8_stop 56 = .ok (.iload_n 1, 1) := by decide +kernel
theorem dX8_stop_57 : decode cX8_stop 57 = .ok (.iload_n 2, 1) := by decide +kernel
theorem dX8_stop_58 : decode cX8_stop 58 = .ok (.invokevirtual 113, 3) := by decide +kernel
theorem dX8_stop_61 : decode cX8_stop 61 = .ok (.iconst (-1), 1) := by decide +kernel
theorem dX8_stop_62 : decode cX8_stop 62 = .ok (.if_icmp .eq 5, 3) := by decide +kernel
theorem dX8_stop_65 : decode cX8_stop 65 = .ok (.iconst (-1), 1) := by decide +kernel
theorem dX8_stop_66 : decode cX8_stop 66 = .ok (.ireturn, 1) := by decide +kernel
theorem dX8_stop_67 : decode cX8_stop 67 = .ok (.bipush 7, 2) := by decide +kernel
theorem dX8_stop_69 : decode cX8_stop 69 = .ok (.iload_n 1, 1) := by decide +kernel
theorem dX8_stop_70 : decode cX8_stop 70 = .ok (.imul, 1) := by decide +kernel
theorem dX8_stop_71 : decode cX8_stop 71 = .ok (.aload_n 0, 1) := by decide +kernel
theorem dX8_stop_72 : decode cX8_stop 72 = .ok (.getfield 17, 3) := by decide +kernel
theorem dX8_stop_75 : decode cX8_stop 75 = .ok (.iload_n 1, 1) := by decide +kernel
theorem dX8_stop_76 : decode cX8_stop 76 = .ok (.iaload, 1) := by decide +kernel
theorem dX8_stop_77 : decode cX8_stop 77 = .ok (.iadd, 1) := by decide +kernel
theorem dX8_stop_78 : decode cX8_stop 78 = .ok (.istore 5, 2) := by decide +kernel
theorem dX8_stop_80 : decode cX8_stop 80 = .ok (.aload_n 0, 1) := by decide +kernel
theorem dX8_stop_81 : decode cX8_stop 81 = .ok (.getfield 17, 3) := by decide +kernel
theorem dX8_stop_84 : decode cX8_stop 84 = .ok (.iload_n 1, 1) := by decide +kernel
theorem dX8_stop_85 : decode cX8_stop 85 = .ok (.iaload, 1) := by decide +kernel
theorem dX8_stop_86 : decode cX8_stop 86 = .ok (.ifCond .le 18, 3) := by decide +kernel
theorem dX8_stop_89 : decode cX8_stop 89 = .ok (.iload_n 3, 1) := by decide +kernel
theorem dX8_stop_90 : decode cX8_stop 90 = .ok (.aload_n 0, 1) := by decide +kernel
theorem dX8_stop_91 : decode cX8_stop 91 = .ok (.getfield 26, 3) := by decide +kernel
theorem dX8_stop_94 : decode cX8_stop 94 = .ok (.iload 5, 2) := by decide +kernel
theorem dX8_stop_96 : decode cX8_stop 96 = .ok (.iconst 1, 1) := by decide +kernel
theorem dX8_stop_97 : decode cX8_stop 97 = .ok (.isub, 1) := by decide +kernel
theorem dX8_stop_98 : decode cX8_stop 98 = .ok (.iaload, 1) := by decide +kernel
theorem dX8_stop_99 : decode cX8_stop 99 = .ok (.if_icmp .gt 5, 3) := by decide +kernel
theorem dX8_stop_102 : decode cX8_stop 102 = .ok (.iconst (-1), 1) := by decide +kernel
theorem dX8_stop_103 : decode cX8_stop 103 = .ok (.ireturn, 1) := by decide +kernel
theorem dX8_stop_104 : decode cX8_stop 104 = .ok (.aload_n 0, 1) := by decide +kernel
theorem dX8_stop_105 : decode cX8_stop 105 = .ok (.getfield 20, 3) := by decide +kernel
theorem dX8_stop_108 : decode cX8_stop 108 = .ok (.iload 5, 2) := by decide +kernel
theorem dX8_stop_110 : decode cX8_stop 110 = .ok (.iload_n 2, 1) := by decide +kernel
theorem dX8_stop_111 : decode cX8_stop 111 = .ok (.iastore, 1) := by decide +kernel
theorem dX8_stop_112 : decode cX8_stop 112 = .ok (.aload_n 0, 1) := by decide +kernel
theorem dX8_stop_113 : decode cX8_stop 113 = .ok (.getfield 23, 3) := by decide +kernel
theorem dX8_stop_116 : decode cX8_stop 116 = .ok (.iload 5, 2) := by decide +kernel
theorem dX8_stop_118 : decode cX8_stop 118 = .ok (.iload_n 3, 1) := by decide +kernel
theorem dX8_stop_119 : decode cX8_stop 119 = .ok (.iastore, 1) := by decide +kernel
theorem dX8_stop_120 : decode cX8_stop 120 = .ok (.aload_n 0, 1) := by decide +kernel
theorem dX8_stop_121 : decode cX8_stop 121 = .ok (.getfield 26, 3) := by decide +kernel
theorem dX8_stop_124 : decode cX8_stop 124 = .ok (.iload 5, 2) := by decide +kernel
theorem dX8_stop_126 : decode cX8_stop 126 = .ok (.iload 4, 2) := by decide +kernel
theorem dX8_stop_128 : decode cX8_stop 128 = .ok (.iastore, 1) := by decide +kernel
theorem dX8_stop_129 : decode cX8_stop 129 = .ok (.aload_n 0, 1) := by decide +kernel
theorem dX8_stop_130 : decode cX8_stop 130 = .ok (.getfield 17, 3) := by decide +kernel
theorem dX8_stop_133 : decode cX8_stop 133 = .ok (.iload_n 1, 1) := by decide +kernel
theorem dX8_stop_134 : decode cX8_stop 134 = .ok (.aload_n 0, 1) := by decide +kernel
theorem dX8_stop_135 : decode cX8_stop 135 = .ok (.getfield 17, 3) := by decide +kernel
theorem dX8_stop_138 : decode cX8_stop 138 = .ok (.iload_n 1, 1) := by decide +kernel
theorem dX8_stop_139 : decode cX8_stop 139 = .ok (.iaload, 1) := by decide +kernel
theorem dX8_stop_140 : decode cX8_stop 140 = .ok (.iconst 1, 1) := by decide +kernel
theorem dX8_stop_141 : decode cX8_stop 141 = .ok (.iadd, 1) := by decide +kernel
theorem dX8_stop_142 : decode cX8_stop 142 = .ok (.iastore, 1) := by decide +kernel
theorem dX8_stop_143 : decode cX8_stop 143 = .ok (.aload_n 0, 1) := by decide +kernel
theorem dX8_stop_144 : decode cX8_stop 144 = .ok (.getfield 17, 3) := by decide +kernel
theorem dX8_stop_147 : decode cX8_stop 147 = .ok (.iload_n 1, 1) := by decide +kernel
theorem dX8_stop_148 : decode cX8_stop 148 = .ok (.iaload, 1) := by decide +kernel
theorem dX8_stop_149 : decode cX8_stop 149 = .ok (.ireturn, 1) := by decide +kernel
theorem dX8_days_0 : decode cX8_days 0 = .ok (.aload_n 0, 1) := by decide +kernel
theorem dX8_days_1 : decode cX8_days 1 = .ok (.iconst 0, 1) := by decide +kernel
theorem dX8_days_2 : decode cX8_days 2 = .ok (.putfield 94, 3) := by decide +kernel
theorem dX8_days_5 : decode cX8_days 5 = .ok (.aload_n 0, 1) := by decide +kernel
theorem dX8_days_6 : decode cX8_days 6 = .ok (.iload_n 1, 1) := by decide +kernel
theorem dX8_days_7 : decode cX8_days 7 = .ok (.invokevirtual 104, 3) := by decide +kernel
theorem dX8_days_10 : decode cX8_days 10 = .ok (.ifCond .eq 11, 3) := by decide +kernel
theorem dX8_days_13 : decode cX8_days 13 = .ok (.aload_n 0, 1) := by decide +kernel
theorem dX8_days_14 : decode cX8_days 14 = .ok (.iload_n 2, 1) := by decide +kernel
theorem dX8_days_15 : decode cX8_days 15 = .ok (.invokevirtual 100, 3) := by decide +kernel
theorem dX8_days_18 : decode cX8_days 18 = .ok (.ifCond .ne 5, 3) := by decide +kernel
theorem dX8_days_21 : decode cX8_days 21 = .ok (.iconst 0, 1) := by decide +kernel
theorem dX8_days_22 : decode cX8_days 22 = .ok (.ireturn, 1) := by decide +kernel
theorem dX8_days_23 : decode cX8_days 23 = .ok (.aload_n 0, 1) := by decide +kernel
theorem dX8_days_24 : decode cX8_days 24 = .ok (.getfield 13, 3) := by decide +kernel
theorem dX8_days_27 : decode cX8_days 27 = .ok (.iload_n 1, 1) := by decide +kernel
theorem dX8_days_28 : decode cX8_days 28 = .ok (.iload_n 2, 1) := by decide +kernel
theorem dX8_days_29 : decode cX8_days 29 = .ok (.iastore, 1) := by decide +kernel
theorem dX8_days_30 : decode cX8_days 30 = .ok (.iconst 1, 1) := by decide +kernel
theorem dX8_days_31 : decode cX8_days 31 = .ok (.ireturn, 1) := by decide +kernel
theorem dX8_cut_0 : decode cX8_cut 0 = .ok (.aload_n 0, 1) := by decide +kernel
theorem dX8_cut_1 : decode cX8_cut 1 = .ok (.iconst 0, 1) := by decide +kernel
theorem dX8_cut_2 : decode cX8_cut 2 = .ok (.putfield 94, 3) := by decide +kernel
theorem dX8_cut_5 : decode cX8_cut 5 = .ok (.aload_n 0, 1) := by decide +kernel
theorem dX8_cut_6 : decode cX8_cut 6 = .ok (.iload_n 1, 1) := by decide +kernel
theorem dX8_cut_7 : decode cX8_cut 7 = .ok (.invokevirtual 104, 3) := by decide +kernel
theorem dX8_cut_10 : decode cX8_cut 10 = .ok (.ifCond .eq 12, 3) := by decide +kernel
theorem dX8_cut_13 : decode cX8_cut 13 = .ok (.aload_n 0, 1) := by decide +kernel
theorem dX8_cut_14 : decode cX8_cut 14 = .ok (.getfield 17, 3) := by decide +kernel
theorem dX8_cut_17 : decode cX8_cut 17 = .ok (.iload_n 1, 1) := by decide +kernel
theorem dX8_cut_18 : decode cX8_cut 18 = .ok (.iaload, 1) := by decide +kernel
theorem dX8_cut_19 : decode cX8_cut 19 = .ok (.ifCond .ne 5, 3) := by decide +kernel
theorem dX8_cut_22 : decode cX8_cut 22 = .ok (.iconst 0, 1) := by decide +kernel
theorem dX8_cut_23 : decode cX8_cut 23 = .ok (.ireturn, 1) := by decide +kernel
theorem dX8_cut_24 : decode cX8_cut 24 = .ok (.aload_n 0, 1) := by decide +kernel
theorem dX8_cut_25 : decode cX8_cut 25 = .ok (.getfield 17, 3) := by decide +kernel
theorem dX8_cut_28 : decode cX8_cut 28 = .ok (.iload_n 1, 1) := by decide +kernel
theorem dX8_cut_29 : decode cX8_cut 29 = .ok (.aload_n 0, 1) := by decide +kernel
theorem dX8_cut_30 : decode cX8_cut 30 = .ok (.getfield 17, 3) := by decide +kernel
theorem dX8_cut_33 : decode cX8_cut 33 = .ok (.iload_n 1, 1) := by decide +kernel
theorem dX8_cut_34 : decode cX8_cut 34 = .ok (.iaload, 1) := by decide +kernel
theorem dX8_cut_35 : decode cX8_cut 35 = .ok (.iconst 1, 1) := by decide +kernel
theorem dX8_cut_36 : decode cX8_cut 36 = .ok (.isub, 1) := by decide +kernel
theorem dX8_cut_37 : decode cX8_cut 37 = .ok (.iastore, 1) := by decide +kernel
theorem dX8_cut_38 : decode cX8_cut 38 = .ok (.iconst 1, 1) := by decide +kernel
theorem dX8_cut_39 : decode cX8_cut 39 = .ok (.ireturn, 1) := by decide +kernel
theorem dX8_shift_0 : decode cX8_shift 0 = .ok (.aload_n 0, 1) := by decide +kernel
theorem dX8_shift_1 : decode cX8_shift 1 = .ok (.iconst 0, 1) := by decide +kernel
theorem dX8_shift_2 : decode cX8_shift 2 = .ok (.putfield 94, 3) := by decide +kernel
theorem dX8_shift_5 : decode cX8_shift 5 = .ok (.aload_n 0, 1) := by decide +kernel
theorem dX8_shift_6 : decode cX8_shift 6 = .ok (.iload_n 1, 1) := by decide +kernel
theorem dX8_shift_7 : decode cX8_shift 7 = .ok (.invokevirtual 104, 3) := by decide +kernel
theorem dX8_shift_10 : decode cX8_shift 10 = .ok (.ifCond .ne 5, 3) := by decide +kernel
theorem dX8_shift_13 : decode cX8_shift 13 = .ok (.iconst 0, 1) := by decide +kernel
theorem dX8_shift_14 : decode cX8_shift 14 = .ok (.ireturn, 1) := by decide +kernel
theorem dX8_shift_15 : decode cX8_shift 15 = .ok (.aload_n 0, 1) := by decide +kernel
theorem dX8_shift_16 : decode cX8_shift 16 = .ok (.getfield 17, 3) := by decide +kernel
theorem dX8_shift_19 : decode cX8_shift 19 = .ok (.iload_n 1, 1) := by decide +kernel
theorem dX8_shift_20 : decode cX8_shift 20 = .ok (.iaload, 1) := by decide +kernel
theorem dX8_shift_21 : decode cX8_shift 21 = .ok (.ifCond .ne 5, 3) := by decide +kernel
theorem dX8_shift_24 : decode cX8_shift 24 = .ok (.iconst 1, 1) := by decide +kernel
theorem dX8_shift_25 : decode cX8_shift 25 = .ok (.ireturn, 1) := by decide +kernel
theorem dX8_shift_26 : decode cX8_shift 26 = .ok (.iload_n 2, 1) := by decide +kernel
theorem dX8_shift_27 : decode cX8_shift 27 = .ok (.sipush (-1440), 3) := by decide +kernel
theorem dX8_shift_30 : decode cX8_shift 30 = .ok (.if_icmp .lt 10, 3) := by decide +kernel
theorem dX8_shift_33 : decode cX8_shift 33 = .ok (.iload_n 2, 1) := by decide +kernel
theorem dX8_shift_34 : decode cX8_shift 34 = .ok (.sipush 1440, 3) := by decide +kernel
theorem dX8_shift_37 : decode cX8_shift 37 = .ok (.if_icmp .le 5, 3) := by decide +kernel
theorem dX8_shift_40 : decode cX8_shift 40 = .ok (.iconst 0, 1) := by decide +kernel
theorem dX8_shift_41 : decode cX8_shift 41 = .ok (.ireturn, 1) := by decide +kernel
theorem dX8_shift_42 : decode cX8_shift 42 = .ok (.iconst 0, 1) := by decide +kernel
theorem dX8_shift_43 : decode cX8_shift 43 = .ok (.istore_n 3, 1) := by decide +kernel
theorem dX8_shift_44 : decode cX8_shift 44 = .ok (.iload_n 3, 1) := by decide +kernel
theorem dX8_shift_45 : decode cX8_shift 45 = .ok (.aload_n 0, 1) := by decide +kernel
theorem dX8_shift_46 : decode cX8_shift 46 = .ok (.getfield 17, 3) := by decide +kernel
theorem dX8_shift_49 : decode cX8_shift 49 = .ok (.iload_n 1, 1) := by decide +kernel
theorem dX8_shift_50 : decode cX8_shift 50 = .ok (.iaload, 1) := by decide +kernel
theorem dX8_shift_51 : decode cX8_shift 51 = .ok (.if_icmp .ge 51, 3) := by decide +kernel
theorem dX8_shift_54 : decode cX8_shift 54 = .ok (.aload_n 0, 1) := by decide +kernel
theorem dX8_shift_55 : decode cX8_shift 55 = .ok (.aload_n 0, 1) := by decide +kernel
theorem dX8_shift_56 : decode cX8_shift 56 = .ok (.getfield 23, 3) := by decide +kernel
theorem dX8_shift_59 : decode cX8_shift 59 = .ok (.bipush 7, 2) := by decide +kernel
theorem dX8_shift_61 : decode cX8_shift 61 = .ok (.iload_n 1, 1) := by decide +kernel
theorem dX8_shift_62 : decode cX8_shift 62 = .ok (.imul, 1) := by decide +kernel
theorem dX8_shift_63 : decode cX8_shift 63 = .ok (.iload_n 3, 1) := by decide +kernel
theorem dX8_shift_64 : decode cX8_shift 64 = .ok (.iadd, 1) := by decide +kernel
theorem dX8_shift_65 : decode cX8_shift 65 = .ok (.iaload, 1) := by decide +kernel
theorem dX8_shift_66 : decode cX8_shift 66 = .ok (.iload_n 2, 1) := by decide +kernel
theorem dX8_shift_67 : decode cX8_shift 67 = .ok (.iadd, 1) := by decide +kernel
theorem dX8_shift_68 : decode cX8_shift 68 = .ok (.invokevirtual 110, 3) := by decide +kernel
theorem dX8_shift_71 : decode cX8_shift 71 = .ok (.ifCond .eq 23, 3) := by decide +kernel
theorem dX8_shift_74 : decode cX8_shift 74 = .ok (.aload_n 0, 1) := by decide +kernel
theorem dX8_shift_75 : decode cX8_shift 75 = .ok (.aload_n 0, 1) := by decide +kernel
theorem dX8_shift_76 : decode cX8_shift 76 = .ok (.getfield 26, 3) := by decide +kernel
theorem dX8_shift_79 : decode cX8_shift 79 = .ok (.bipush 7, 2) := by decide +kernel
theorem dX8_shift_81 : decode cX8_shift 81 = .ok (.iload_n 1, 1) := by decide +kernel
theorem dX8_shift_82 : decode cX8_shift 82 = .ok (.imul, 1) := by decide +kernel
theorem dX8_shift_83 : decode cX8_shift 83 = .ok (.iload_n 3, 1) := by decide +kernel
theorem dX8_shift_84 : decode cX8_shift 84 = .ok (.iadd, 1) := by decide +kernel
theorem dX8_shift_85 : decode cX8_shift 85 = .ok (.iaload, 1) := by decide +kernel
theorem dX8_shift_86 : decode cX8_shift 86 = .ok (.iload_n 2, 1) := by decide +kernel
theorem dX8_shift_87 : decode cX8_shift 87 = .ok (.iadd, 1) := by decide +kernel
theorem dX8_shift_88 : decode cX8_shift 88 = .ok (.invokevirtual 110, 3) := by decide +kernel
theorem dX8_shift_91 : decode cX8_shift 91 = .ok (.ifCond .ne 5, 3) := by decide +kernel
theorem dX8_shift_94 : decode cX8_shift 94 = .ok (.iconst 0, 1) := by decide +kernel
theorem dX8_shift_95 : decode cX8_shift 95 = .ok (.ireturn, 1) := by decide +kernel
theorem dX8_shift_96 : decode cX8_shift 96 = .ok (.iinc 3 1, 3) := by decide +kernel
theorem dX8_shift_99 : decode cX8_shift 99 = .ok (.goto (-55), 3) := by decide +kernel
theorem dX8_shift_102 : decode cX8_shift 102 = .ok (.iconst 0, 1) := by decide +kernel
theorem dX8_shift_103 : decode cX8_shift 103 = .ok (.istore_n 3, 1) := by decide +kernel
theorem dX8_shift_104 : decode cX8_shift 104 = .ok (.iload_n 3, 1) := by decide +kernel
theorem dX8_shift_105 : decode cX8_shift 105 = .ok (.aload_n 0, 1) := by decide +kernel
theorem dX8_shift_106 : decode cX8_shift 106 = .ok (.getfield 17, 3) := by decide +kernel
theorem dX8_shift_109 : decode cX8_shift 109 = .ok (.iload_n 1, 1) := by decide +kernel
theorem dX8_shift_110 : decode cX8_shift 110 = .ok (.iaload, 1) := by decide +kernel
theorem dX8_shift_111 : decode cX8_shift 111 = .ok (.if_icmp .ge 57, 3) := by decide +kernel
theorem dX8_shift_114 : decode cX8_shift 114 = .ok (.aload_n 0, 1) := by decide +kernel
theorem dX8_shift_115 : decode cX8_shift 115 = .ok (.getfield 23, 3) := by decide +kernel
theorem dX8_shift_118 : decode cX8_shift 118 = .ok (.bipush 7, 2) := by decide +kernel
theorem dX8_shift_120 : decode cX8_shift 120 = .ok (.iload_n 1, 1) := by decide +kernel
theorem dX8_shift_121 : decode cX8_shift 121 = .ok (.imul, 1) := by decide +kernel
theorem dX8_shift_122 : decode cX8_shift 122 = .ok (.iload_n 3, 1) := by decide +kernel
theorem dX8_shift_123 : decode cX8_shift 123 = .ok (.iadd, 1) := by decide +kernel
theorem dX8_shift_124 : decode cX8_shift 124 = .ok (.aload_n 0, 1) := by decide +kernel
theorem dX8_shift_125 : decode cX8_shift 125 = .ok (.getfield 23, 3) := by decide +kernel
theorem dX8_shift_128 : decode cX8_shift 128 = .ok (.bipush 7, 2) := by decide +kernel
theorem dX8_shift_130 : decode cX8_shift 130 = .ok (.iload_n 1, 1) := by decide +kernel
theorem dX8_shift_131 : decode cX8_shift 131 = .ok (.imul, 1) := by decide +kernel
theorem dX8_shift_132 : decode cX8_shift 132 = .ok (.iload_n 3, 1) := by decide +kernel
theorem dX8_shift_133 : decode cX8_shift 133 = .ok (.iadd, 1) := by decide +kernel
theorem dX8_shift_134 : decode cX8_shift 134 = .ok (.iaload, 1) := by decide +kernel
theorem dX8_shift_135 : decode cX8_shift 135 = .ok (.iload_n 2, 1) := by decide +kernel
theorem dX8_shift_136 : decode cX8_shift 136 = .ok (.iadd, 1) := by decide +kernel
theorem dX8_shift_137 : decode cX8_shift 137 = .ok (.iastore, 1) := by decide +kernel
theorem dX8_shift_138 : decode cX8_shift 138 = .ok (.aload_n 0, 1) := by decide +kernel
theorem dX8_shift_139 : decode cX8_shift 139 = .ok (.getfield 26, 3) := by decide +kernel
theorem dX8_shift_142 : decode cX8_shift 142 = .ok (.bipush 7, 2) := by decide +kernel
theorem dX8_shift_144 : decode cX8_shift 144 = .ok (.iload_n 1, 1) := by decide +kernel
theorem dX8_shift_145 : decode cX8_shift 145 = .ok (.imul, 1) := by decide +kernel
theorem dX8_shift_146 : decode cX8_shift 146 = .ok (.iload_n 3, 1) := by decide +kernel
theorem dX8_shift_147 : decode cX8_shift 147 = .ok (.iadd, 1) := by decide +kernel
theorem dX8_shift_148 : decode cX8_shift 148 = .ok (.aload_n 0, 1) := by decide +kernel
theorem dX8_shift_149 : decode cX8_shift 149 = .ok (.getfield 26, 3) := by decide +kernel
theorem dX8_shift_152 : decode cX8_shift 152 = .ok (.bipush 7, 2) := by decide +kernel
theorem dX8_shift_154 : decode cX8_shift 154 = .ok (.iload_n 1, 1) := by decide +kernel
theorem dX8_shift_155 : decode cX8_shift 155 = .ok (.imul, 1) := by decide +kernel
theorem dX8_shift_156 : decode cX8_shift 156 = .ok (.iload_n 3, 1) := by decide +kernel
theorem dX8_shift_157 : decode cX8_shift 157 = .ok (.iadd, 1) := by decide +kernel
theorem dX8_shift_158 : decode cX8_shift 158 = .ok (.iaload, 1) := by decide +kernel
theorem dX8_shift_159 : decode cX8_shift 159 = .ok (.iload_n 2, 1) := by decide +kernel
theorem dX8_shift_160 : decode cX8_shift 160 = .ok (.iadd, 1) := by decide +kernel
theorem dX8_shift_161 : decode cX8_shift 161 = .ok (.iastore, 1) := by decide +kernel
theorem dX8_shift_162 : decode cX8_shift 162 = .ok (.iinc 3 1, 3) := by decide +kernel
theorem dX8_shift_165 : decode cX8_shift 165 = .ok (.goto (-61), 3) := by decide +kernel
theorem dX8_shift_168 : decode cX8_shift 168 = .ok (.iconst 1, 1) := by decide +kernel
theorem dX8_shift_169 : decode cX8_shift 169 = .ok (.ireturn, 1) := by decide +kernel
theorem dX8_sign_0 : decode cX8_sign 0 = .ok (.aload_n 0, 1) := by decide +kernel
theorem dX8_sign_1 : decode cX8_sign 1 = .ok (.iconst 0, 1) := by decide +kernel
theorem dX8_sign_2 : decode cX8_sign 2 = .ok (.putfield 94, 3) := by decide +kernel
theorem dX8_sign_5 : decode cX8_sign 5 = .ok (.iload_n 1, 1) := by decide +kernel
theorem dX8_sign_6 : decode cX8_sign 6 = .ok (.bipush 7, 2) := by decide +kernel
theorem dX8_sign_8 : decode cX8_sign 8 = .ok (.if_icmp .lt 19, 3) := by decide +kernel
theorem dX8_sign_11 : decode cX8_sign 11 = .ok (.iload_n 1, 1) := by decide +kernel
theorem dX8_sign_12 : decode cX8_sign 12 = .ok (.bipush 12, 2) := by decide +kernel
theorem dX8_sign_14 : decode cX8_sign 14 = .ok (.if_icmp .gt 13, 3) := by decide +kernel
theorem dX8_sign_17 : decode cX8_sign 17 = .ok (.iload_n 2, 1) := by decide +kernel
theorem dX8_sign_18 : decode cX8_sign 18 = .ok (.ifCond .lt 9, 3) := by decide +kernel
theorem dX8_sign_21 : decode cX8_sign 21 = .ok (.iload_n 2, 1) := by decide +kernel
theorem dX8_sign_22 : decode cX8_sign 22 = .ok (.bipush 127, 2) := by decide +kernel
theorem dX8_sign_24 : decode cX8_sign 24 = .ok (.if_icmp .le 5, 3) := by decide +kernel
theorem dX8_sign_27 : decode cX8_sign 27 = .ok (.iconst 0, 1) := by decide +kernel
theorem dX8_sign_28 : decode cX8_sign 28 = .ok (.ireturn, 1) := by decide +kernel
theorem dX8_sign_29 : decode cX8_sign 29 = .ok (.aload_n 0, 1) := by decide +kernel
theorem dX8_sign_30 : decode cX8_sign 30 = .ok (.getfield 29, 3) := by decide +kernel
theorem dX8_sign_33 : decode cX8_sign 33 = .ok (.iload_n 1, 1) := by decide +kernel
theorem dX8_sign_34 : decode cX8_sign 34 = .ok (.iload_n 2, 1) := by decide +kernel
theorem dX8_sign_35 : decode cX8_sign 35 = .ok (.iastore, 1) := by decide +kernel
theorem dX8_sign_36 : decode cX8_sign 36 = .ok (.iconst 1, 1) := by decide +kernel
theorem dX8_sign_37 : decode cX8_sign 37 = .ok (.ireturn, 1) := by decide +kernel
theorem dX8_change_0 : decode cX8_change 0 = .ok (.aload_n 0, 1) := by decide +kernel
theorem dX8_change_1 : decode cX8_change 1 = .ok (.iconst 0, 1) := by decide +kernel
theorem dX8_change_2 : decode cX8_change 2 = .ok (.putfield 94, 3) := by decide +kernel
theorem dX8_change_5 : decode cX8_change 5 = .ok (.iload_n 1, 1) := by decide +kernel
theorem dX8_change_6 : decode cX8_change 6 = .ok (.ifCond .lt 9, 3) := by decide +kernel
theorem dX8_change_9 : decode cX8_change 9 = .ok (.iload_n 1, 1) := by decide +kernel
theorem dX8_change_10 : decode cX8_change 10 = .ok (.bipush 60, 2) := by decide +kernel
theorem dX8_change_12 : decode cX8_change 12 = .ok (.if_icmp .le 5, 3) := by decide +kernel
theorem dX8_change_15 : decode cX8_change 15 = .ok (.iconst 0, 1) := by decide +kernel
theorem dX8_change_16 : decode cX8_change 16 = .ok (.ireturn, 1) := by decide +kernel
theorem dX8_change_17 : decode cX8_change 17 = .ok (.aload_n 0, 1) := by decide +kernel
theorem dX8_change_18 : decode cX8_change 18 = .ok (.iload_n 1, 1) := by decide +kernel
theorem dX8_change_19 : decode cX8_change 19 = .ok (.putfield 7, 3) := by decide +kernel
theorem dX8_change_22 : decode cX8_change 22 = .ok (.iconst 1, 1) := by decide +kernel
theorem dX8_change_23 : decode cX8_change 23 = .ok (.ireturn, 1) := by decide +kernel
theorem dX8_about_0 : decode cX8_about 0 = .ok (.aload_n 0, 1) := by decide +kernel
theorem dX8_about_1 : decode cX8_about 1 = .ok (.iconst 0, 1) := by decide +kernel
theorem dX8_about_2 : decode cX8_about 2 = .ok (.putfield 94, 3) := by decide +kernel
theorem dX8_about_5 : decode cX8_about 5 = .ok (.iload_n 1, 1) := by decide +kernel
theorem dX8_about_6 : decode cX8_about 6 = .ok (.ifCond .ne 8, 3) := by decide +kernel
theorem dX8_about_9 : decode cX8_about 9 = .ok (.aload_n 0, 1) := by decide +kernel
theorem dX8_about_10 : decode cX8_about 10 = .ok (.getfield 97, 3) := by decide +kernel
theorem dX8_about_13 : decode cX8_about 13 = .ok (.ireturn, 1) := by decide +kernel
theorem dX8_about_14 : decode cX8_about 14 = .ok (.iload_n 1, 1) := by decide +kernel
theorem dX8_about_15 : decode cX8_about 15 = .ok (.iconst 1, 1) := by decide +kernel
theorem dX8_about_16 : decode cX8_about 16 = .ok (.if_icmp .ne 8, 3) := by decide +kernel
theorem dX8_about_19 : decode cX8_about 19 = .ok (.aload_n 0, 1) := by decide +kernel
theorem dX8_about_20 : decode cX8_about 20 = .ok (.getfield 7, 3) := by decide +kernel
theorem dX8_about_23 : decode cX8_about 23 = .ok (.ireturn, 1) := by decide +kernel
theorem dX8_about_24 : decode cX8_about 24 = .ok (.iload_n 1, 1) := by decide +kernel
theorem dX8_about_25 : decode cX8_about 25 = .ok (.iconst 2, 1) := by decide +kernel
theorem dX8_about_26 : decode cX8_about 26 = .ok (.if_icmp .ne 8, 3) := by decide +kernel
theorem dX8_about_29 : decode cX8_about 29 = .ok (.aload_n 0, 1) := by decide +kernel
theorem dX8_about_30 : decode cX8_about 30 = .ok (.getfield 117, 3) := by decide +kernel
theorem dX8_about_33 : decode cX8_about 33 = .ok (.ireturn, 1) := by decide +kernel
theorem dX8_about_34 : decode cX8_about 34 = .ok (.iload_n 1, 1) := by decide +kernel
theorem dX8_about_35 : decode cX8_about 35 = .ok (.iconst 3, 1) := by decide +kernel
theorem dX8_about_36 : decode cX8_about 36 = .ok (.if_icmp .ne 8, 3) := by decide +kernel
theorem dX8_about_39 : decode cX8_about 39 = .ok (.aload_n 0, 1) := by decide +kernel
theorem dX8_about_40 : decode cX8_about 40 = .ok (.getfield 120, 3) := by decide +kernel
theorem dX8_about_43 : decode cX8_about 43 = .ok (.ireturn, 1) := by decide +kernel
theorem dX8_about_44 : decode cX8_about 44 = .ok (.iload_n 1, 1) := by decide +kernel
theorem dX8_about_45 : decode cX8_about 45 = .ok (.bipush 100, 2) := by decide +kernel
theorem dX8_about_47 : decode cX8_about 47 = .ok (.if_icmp .lt 16, 3) := by decide +kernel
theorem dX8_about_50 : decode cX8_about 50 = .ok (.aload_n 0, 1) := by decide +kernel
theorem dX8_about_51 : decode cX8_about 51 = .ok (.iload_n 1, 1) := by decide +kernel
theorem dX8_about_52 : decode cX8_about 52 = .ok (.bipush 100, 2) := by decide +kernel
theorem dX8_about_54 : decode cX8_about 54 = .ok (.idiv, 1) := by decide +kernel
theorem dX8_about_55 : decode cX8_about 55 = .ok (.iconst 1, 1) := by decide +kernel
theorem dX8_about_56 : decode cX8_about 56 = .ok (.isub, 1) := by decide +kernel
theorem dX8_about_57 : decode cX8_about 57 = .ok (.invokevirtual 104, 3) := by decide +kernel
theorem dX8_about_60 : decode cX8_about 60 = .ok (.ifCond .ne 5, 3) := by decide +kernel
theorem dX8_about_63 : decode cX8_about 63 = .ok (.iconst (-1), 1) := by decide +kernel
theorem dX8_about_64 : decode cX8_about 64 = .ok (.ireturn, 1) := by decide +kernel
theorem dX8_about_65 : decode cX8_about 65 = .ok (.iload_n 1, 1) := by decide +kernel
theorem dX8_about_66 : decode cX8_about 66 = .ok (.bipush 100, 2) := by decide +kernel
theorem dX8_about_68 : decode cX8_about 68 = .ok (.idiv, 1) := by decide +kernel
theorem dX8_about_69 : decode cX8_about 69 = .ok (.iconst 1, 1) := by decide +kernel
theorem dX8_about_70 : decode cX8_about 70 = .ok (.isub, 1) := by decide +kernel
theorem dX8_about_71 : decode cX8_about 71 = .ok (.istore_n 2, 1) := by decide +kernel
theorem dX8_about_72 : decode cX8_about 72 = .ok (.iload_n 1, 1) := by decide +kernel
theorem dX8_about_73 : decode cX8_about 73 = .ok (.bipush 100, 2) := by decide +kernel
theorem dX8_about_75 : decode cX8_about 75 = .ok (.irem, 1) := by decide +kernel
theorem dX8_about_76 : decode cX8_about 76 = .ok (.istore_n 3, 1) := by decide +kernel
theorem dX8_about_77 : decode cX8_about 77 = .ok (.iload_n 3, 1) := by decide +kernel
theorem dX8_about_78 : decode cX8_about 78 = .ok (.ifCond .ne 10, 3) := by decide +kernel
theorem dX8_about_81 : decode cX8_about 81 = .ok (.aload_n 0, 1) := by decide +kernel
theorem dX8_about_82 : decode cX8_about 82 = .ok (.getfield 13, 3) := by decide +kernel
theorem dX8_about_85 : decode cX8_about 85 = .ok (.iload_n 2, 1) := by decide +kernel
theorem dX8_about_86 : decode cX8_about 86 = .ok (.iaload, 1) := by decide +kernel
theorem dX8_about_87 : decode cX8_about 87 = .ok (.ireturn, 1) := by decide +kernel
theorem dX8_about_88 : decode cX8_about 88 = .ok (.iload_n 3, 1) := by decide +kernel
theorem dX8_about_89 : decode cX8_about 89 = .ok (.iconst 1, 1) := by decide +kernel
theorem dX8_about_90 : decode cX8_about 90 = .ok (.if_icmp .ne 10, 3) := by decide +kernel
theorem dX8_about_93 : decode cX8_about 93 = .ok (.aload_n 0, 1) := by decide +kernel
theorem dX8_about_94 : decode cX8_about 94 = .ok (.getfield 17, 3) := by decide +kernel
theorem dX8_about_97 : decode cX8_about 97 = .ok (.iload_n 2, 1) := by decide +kernel
theorem dX8_about_98 : decode cX8_about 98 = .ok (.iaload, 1) := by decide +kernel
theorem dX8_about_99 : decode cX8_about 99 = .ok (.ireturn, 1) := by decide +kernel
theorem dX8_about_100 : decode cX8_about 100 = .ok (.iload_n 3, 1) := by decide +kernel
theorem dX8_about_101 : decode cX8_about 101 = .ok (.bipush 10, 2) := by decide +kernel
theorem dX8_about_103 : decode cX8_about 103 = .ok (.idiv, 1) := by decide +kernel
theorem dX8_about_104 : decode cX8_about 104 = .ok (.iconst 1, 1) := by decide +kernel
theorem dX8_about_105 : decode cX8_about 105 = .ok (.isub, 1) := by decide +kernel
theorem dX8_about_106 : decode cX8_about 106 = .ok (.istore 4, 2) := by decide +kernel
theorem dX8_about_108 : decode cX8_about 108 = .ok (.iload_n 3, 1) := by decide +kernel
theorem dX8_about_109 : decode cX8_about 109 = .ok (.bipush 10, 2) := by decide +kernel
theorem dX8_about_111 : decode cX8_about 111 = .ok (.if_icmp .lt 22, 3) := by decide +kernel
theorem dX8_about_114 : decode cX8_about 114 = .ok (.iload 4, 2) := by decide +kernel
theorem dX8_about_116 : decode cX8_about 116 = .ok (.aload_n 0, 1) := by decide +kernel
theorem dX8_about_117 : decode cX8_about 117 = .ok (.getfield 17, 3) := by decide +kernel
theorem dX8_about_120 : decode cX8_about 120 = .ok (.iload_n 2, 1) := by decide +kernel
theorem dX8_about_121 : decode cX8_about 121 = .ok (.iaload, 1) := by decide +kernel
theorem dX8_about_122 : decode cX8_about 122 = .ok (.if_icmp .ge 11, 3) := by decide +kernel
theorem dX8_about_125 : decode cX8_about 125 = .ok (.iload_n 3, 1) := by decide +kernel
theorem dX8_about_126 : decode cX8_about 126 = .ok (.bipush 10, 2) := by decide +kernel
theorem dX8_about_128 : decode cX8_about 128 = .ok (.irem, 1) := by decide +kernel
theorem dX8_about_129 : decode cX8_about 129 = .ok (.iconst 2, 1) := by decide +kernel
theorem dX8_about_130 : decode cX8_about 130 = .ok (.if_icmp .le 5, 3) := by decide +kernel
theorem dX8_about_133 : decode cX8_about 133 = .ok (.iconst (-1), 1) := by decide +kernel
theorem dX8_about_134 : decode cX8_about 134 = .ok (.ireturn, 1) := by decide +kernel
theorem dX8_about_135 : decode cX8_about 135 = .ok (.iload_n 3, 1) := by decide +kernel
theorem dX8_about_136 : decode cX8_about 136 = .ok (.bipush 10, 2) := by decide +kernel
theorem dX8_about_138 : decode cX8_about 138 = .ok (.irem, 1) := by decide +kernel
theorem dX8_about_139 : decode cX8_about 139 = .ok (.ifCond .ne 18, 3) := by decide +kernel
theorem dX8_about_142 : decode cX8_about 142 = .ok (.aload_n 0, 1) := by decide +kernel
theorem dX8_about_143 : decode cX8_about 143 = .ok (.getfield 20, 3) := by decide +kernel
theorem dX8_about_146 : decode cX8_about 146 = .ok (.bipush 7, 2) := by decide +kernel
theorem dX8_about_148 : decode cX8_about 148 = .ok (.iload_n 2, 1) := by decide +kernel
theorem dX8_about_149 : decode cX8_about 149 = .ok (.imul, 1) := by decide +kernel
theorem dX8_about_150 : decode cX8_about 150 = .ok (.iload 4, 2) := by decide +kernel
theorem dX8_about_152 : decode cX8_about 152 = .ok (.iadd, 1) := by decide +kernel
theorem dX8_about_153 : decode cX8_about 153 = .ok (.iaload, 1) := by decide +kernel
theorem dX8_about_154 : decode cX8_about 154 = .ok (.goto 38, 3) := by decide +kernel
theorem dX8_about_157 : decode cX8_about 157 = .ok (.iload_n 3, 1) := by decide +kernel
theorem dX8_about_158 : decode cX8_about 158 = .ok (.bipush 10, 2) := by decide +kernel
theorem dX8_about_160 : decode cX8_about 160 = .ok (.irem, 1) := by decide +kernel
theorem dX8_about_161 : decode cX8_about 161 = .ok (.iconst 1, 1) := by decide +kernel
theorem dX8_about_162 : decode cX8_about 162 = .ok (.if_icmp .ne 18, 3) := by decide +kernel
theorem dX8_about_165 : decode cX8_about 165 = .ok (.aload_n 0, 1) := by decide +kernel
theorem dX8_about_166 : decode cX8_about 166 = .ok (.getfield 23, 3) := by decide +kernel
theorem dX8_about_169 : decode cX8_about 169 = .ok (.bipush 7, 2) := by decide +kernel
theorem dX8_about_171 : decode cX8_about 171 = .ok (.iload_n 2, 1) := by decide +kernel
theorem dX8_about_172 : decode cX8_about 172 = .ok (.imul, 1) := by decide +kernel
theorem dX8_about_173 : decode cX8_about 173 = .ok (.iload 4, 2) := by decide +kernel
theorem dX8_about_175 : decode cX8_about 175 = .ok (.iadd, 1) := by decide +kernel
theorem dX8_about_176 : decode cX8_about 176 = .ok (.iaload, 1) := by decide +kernel
theorem dX8_about_177 : decode cX8_about 177 = .ok (.goto 15, 3) := by decide +kernel
theorem dX8_about_180 : decode cX8_about 180 = .ok (.aload_n 0, 1) := by decide +kernel
theorem dX8_about_181 : decode cX8_about 181 = .ok (.getfield 26, 3) := by decide +kernel
theorem dX8_about_184 : decode cX8_about 184 = .ok (.bipush 7, 2) := by decide +kernel
theorem dX8_about_186 : decode cX8_about 186 = .ok (.iload_n 2, 1) := by decide +kernel
theorem dX8_about_187 : decode cX8_about 187 = .ok (.imul, 1) := by decide +kernel
theorem dX8_about_188 : decode cX8_about 188 = .ok (.iload 4, 2) := by decide +kernel
theorem dX8_about_190 : decode cX8_about 190 = .ok (.iadd, 1) := by decide +kernel
theorem dX8_about_191 : decode cX8_about 191 = .ok (.iaload, 1) := by decide +kernel
theorem dX8_about_192 : decode cX8_about 192 = .ok (.ireturn, 1) := by decide +kernel
theorem dX8_ones_0 : decode cX8_ones 0 = .ok (.iconst 0, 1) := by decide +kernel
theorem dX8_ones_1 : decode cX8_ones 1 = .ok (.istore_n 2, 1) := by decide +kernel
theorem dX8_ones_2 : decode cX8_ones 2 = .ok (.iload_n 1, 1) := by decide +kernel
theorem dX8_ones_3 : decode cX8_ones 3 = .ok (.istore_n 3, 1) := by decide +kernel
theorem dX8_ones_4 : decode cX8_ones 4 = .ok (.iload_n 3, 1) := by decide +kernel
theorem dX8_ones_5 : decode cX8_ones 5 = .ok (.ifCond .eq 16, 3) := by decide +kernel
theorem dX8_ones_8 : decode cX8_ones 8 = .ok (.iload_n 2, 1) := by decide +kernel
theorem dX8_ones_9 : decode cX8_ones 9 = .ok (.iconst 1, 1) := by decide +kernel
theorem dX8_ones_10 : decode cX8_ones 10 = .ok (.iadd, 1) := by decide +kernel
theorem dX8_ones_11 : decode cX8_ones 11 = .ok (.istore_n 2, 1) := by decide +kernel
theorem dX8_ones_12 : decode cX8_ones 12 = .ok (.iload_n 3, 1) := by decide +kernel
theorem dX8_ones_13 : decode cX8_ones 13 = .ok (.iload_n 3, 1) := by decide +kernel
theorem dX8_ones_14 : decode cX8_ones 14 = .ok (.iconst 1, 1) := by decide +kernel
theorem dX8_ones_15 : decode cX8_ones 15 = .ok (.isub, 1) := by decide +kernel
theorem dX8_ones_16 : decode cX8_ones 16 = .ok (.iand, 1) := by decide +kernel
theorem dX8_ones_17 : decode cX8_ones 17 = .ok (.istore_n 3, 1) := by decide +kernel
theorem dX8_ones_18 : decode cX8_ones 18 = .ok (.goto (-14), 3) := by decide +kernel
theorem dX8_ones_21 : decode cX8_ones 21 = .ok (.iload_n 2, 1) := by decide +kernel
theorem dX8_ones_22 : decode cX8_ones 22 = .ok (.ireturn, 1) := by decide +kernel
theorem dX8_signs_0 : decode cX8_signs 0 = .ok (.aload_n 0, 1) := by decide +kernel
theorem dX8_signs_1 : decode cX8_signs 1 = .ok (.iconst 0, 1) := by decide +kernel
theorem dX8_signs_2 : decode cX8_signs 2 = .ok (.putfield 94, 3) := by decide +kernel
theorem dX8_signs_5 : decode cX8_signs 5 = .ok (.aload_n 0, 1) := by decide +kernel
theorem dX8_signs_6 : decode cX8_signs 6 = .ok (.iload_n 1, 1) := by decide +kernel
theorem dX8_signs_7 : decode cX8_signs 7 = .ok (.invokevirtual 104, 3) := by decide +kernel
theorem dX8_signs_10 : decode cX8_signs 10 = .ok (.ifCond .eq 12, 3) := by decide +kernel
theorem dX8_signs_13 : decode cX8_signs 13 = .ok (.iload_n 2, 1) := by decide +kernel
theorem dX8_signs_14 : decode cX8_signs 14 = .ok (.ifCond .lt 8, 3) := by decide +kernel
theorem dX8_signs_17 : decode cX8_signs 17 = .ok (.iload_n 2, 1) := by decide +kernel
theorem dX8_signs_18 : decode cX8_signs 18 = .ok (.iconst 1, 1) := by decide +kernel
theorem dX8_signs_19 : decode cX8_signs 19 = .ok (.if_icmp .le 5, 3) := by decide +kernel
theorem dX8_signs_22 : decode cX8_signs 22 = .ok (.iconst (-1), 1) := by decide +kernel
theorem dX8_signs_23 : decode cX8_signs 23 = .ok (.ireturn, 1) := by decide +kernel
theorem dX8_signs_24 : decode cX8_signs 24 = .ok (.sipush 8191, 3) := by decide +kernel
theorem dX8_signs_27 : decode cX8_signs 27 = .ok (.istore_n 3, 1) := by decide +kernel
theorem dX8_signs_28 : decode cX8_signs 28 = .ok (.iconst 0, 1) := by decide +kernel
theorem dX8_signs_29 : decode cX8_signs 29 = .ok (.istore 4, 2) := by decide +kernel
theorem dX8_signs_31 : decode cX8_signs 31 = .ok (.iconst 1, 1) := by decide +kernel
theorem dX8_signs_32 : decode cX8_signs 32 = .ok (.istore 5, 2) := by decide +kernel
theorem dX8_signs_34 : decode cX8_signs 34 = .ok (.iload 5, 2) := by decide +kernel
theorem dX8_signs_36 : decode cX8_signs 36 = .ok (.sipush 8192, 3) := by decide +kernel
theorem dX8_signs_39 : decode cX8_signs 39 = .ok (.if_icmp .ge 122, 3) := by decide +kernel
theorem dX8_signs_42 : decode cX8_signs 42 = .ok (.iconst 0, 1) := by decide +kernel
theorem dX8_signs_43 : decode cX8_signs 43 = .ok (.istore 6, 2) := by decide +kernel
theorem dX8_signs_45 : decode cX8_signs 45 = .ok (.iconst 1, 1) := by decide +kernel
theorem dX8_signs_46 : decode cX8_signs 46 = .ok (.istore 7, 2) := by decide +kernel
theorem dX8_signs_48 : decode cX8_signs 48 = .ok (.iconst 0, 1) := by decide +kernel
theorem dX8_signs_49 : decode cX8_signs 49 = .ok (.istore 8, 2) := by decide +kernel
theorem dX8_signs_51 : decode cX8_signs 51 = .ok (.iload 8, 2) := by decide +kernel
theorem dX8_signs_53 : decode cX8_signs 53 = .ok (.bipush 13, 2) := by decide +kernel
theorem dX8_signs_55 : decode cX8_signs 55 = .ok (.if_icmp .ge 56, 3) := by decide +kernel
theorem dX8_signs_58 : decode cX8_signs 58 = .ok (.iload 7, 2) := by decide +kernel
theorem dX8_signs_60 : decode cX8_signs 60 = .ok (.ifCond .eq 51, 3) := by decide +kernel
theorem dX8_signs_63 : decode cX8_signs 63 = .ok (.iload 5, 2) := by decide +kernel
theorem dX8_signs_65 : decode cX8_signs 65 = .ok (.iload 8, 2) := by decide +kernel
theorem dX8_signs_67 : decode cX8_signs 67 = .ok (.ishr, 1) := by decide +kernel
theorem dX8_signs_68 : decode cX8_signs 68 = .ok (.iconst 1, 1) := by decide +kernel
theorem dX8_signs_69 : decode cX8_signs 69 = .ok (.iand, 1) := by decide +kernel
theorem dX8_signs_70 : decode cX8_signs 70 = .ok (.ifCond .ne 6, 3) := by decide +kernel
theorem dX8_signs_73 : decode cX8_signs 73 = .ok (.goto 32, 3) := by decide +kernel
theorem dX8_signs_76 : decode cX8_signs 76 = .ok (.iload 6, 2) := by decide +kernel
theorem dX8_signs_78 : decode cX8_signs 78 = .ok (.aload_n 0, 1) := by decide +kernel
theorem dX8_signs_79 : decode cX8_signs 79 = .ok (.getfield 29, 3) := by decide +kernel
theorem dX8_signs_82 : decode cX8_signs 82 = .ok (.iload 8, 2) := by decide +kernel
theorem dX8_signs_84 : decode cX8_signs 84 = .ok (.iaload, 1) := by decide +kernel
theorem dX8_signs_85 : decode cX8_signs 85 = .ok (.ior, 1) := by decide +kernel
theorem dX8_signs_86 : decode cX8_signs 86 = .ok (.istore 6, 2) := by decide +kernel
theorem dX8_signs_88 : decode cX8_signs 88 = .ok (.aload_n 0, 1) := by decide +kernel
theorem dX8_signs_89 : decode cX8_signs 89 = .ok (.getfield 29, 3) := by decide +kernel
theorem dX8_signs_92 : decode cX8_signs 92 = .ok (.iload 8, 2) := by decide +kernel
theorem dX8_signs_94 : decode cX8_signs 94 = .ok (.iaload, 1) := by decide +kernel
theorem dX8_signs_95 : decode cX8_signs 95 = .ok (.ifCond .eq 7, 3) := by decide +kernel
theorem dX8_signs_98 : decode cX8_signs 98 = .ok (.iconst 1, 1) := by decide +kernel
theorem dX8_signs_99 : decode cX8_signs 99 = .ok (.goto 4, 3) := by decide +kernel
theorem dX8_signs_102 : decode cX8_signs 102 = .ok (.iconst 0, 1) := by decide +kernel
theorem dX8_signs_103 : decode cX8_signs 103 = .ok (.istore 7, 2) := by decide +kernel
theorem dX8_signs_105 : decode cX8_signs 105 = .ok (.iinc 8 1, 3) := by decide +kernel
theorem dX8_signs_108 : decode cX8_signs 108 = .ok (.goto (-57), 3) := by decide +kernel
theorem dX8_signs_111 : decode cX8_signs 111 = .ok (.iload 7, 2) := by decide +kernel
theorem dX8_signs_113 : decode cX8_signs 113 = .ok (.ifCond .eq 42, 3) := by decide +kernel
theorem dX8_signs_116 : decode cX8_signs 116 = .ok (.iload 6, 2) := by decide +kernel
theorem dX8_signs_118 : decode cX8_signs 118 = .ok (.aload_n 0, 1) := by decide +kernel
theorem dX8_signs_119 : decode cX8_signs 119 = .ok (.getfield 13, 3) := by decide +kernel
theorem dX8_signs_122 : decode cX8_signs 122 = .ok (.iload_n 1, 1) := by decide +kernel
theorem dX8_signs_123 : decode cX8_signs 123 = .ok (.iaload, 1) := by decide +kernel
theorem dX8_signs_124 : decode cX8_signs 124 = .ok (.if_icmp .ne 31, 3) := by decide +kernel
theorem dX8_signs_127 : decode cX8_signs 127 = .ok (.iload 4, 2) := by decide +kernel
theorem dX8_signs_129 : decode cX8_signs 129 = .ok (.ifCond .eq 20, 3) := by decide +kernel
theorem dX8_signs_132 : decode cX8_signs 132 = .ok (.aload_n 0, 1) := by decide +kernel
theorem dX8_signs_133 : decode cX8_signs 133 = .ok (.iload 5, 2) := by decide +kernel
theorem dX8_signs_135 : decode cX8_signs 135 = .ok (.invokevirtual 123, 3) := by decide +kernel
theorem dX8_signs_138 : decode cX8_signs 138 = .ok (.aload_n 0, 1) := by decide +kernel
theorem dX8_signs_139 : decode cX8_signs 139 = .ok (.iload_n 3, 1) := by decide +kernel
theorem dX8_signs_140 : decode cX8_signs 140 = .ok (.invokevirtual 123, 3) := by decide +kernel
theorem dX8_signs_143 : decode cX8_signs 143 = .ok (.if_icmp .lt 6, 3) := by decide +kernel
theorem dX8_signs_146 : decode cX8_signs 146 = .ok (.goto 9, 3) := by decide +kernel
theorem dX8_signs_149 : decode cX8_signs 149 = .ok (.iconst 1, 1) := by decide +kernel
theorem dX8_signs_150 : decode cX8_signs 150 = .ok (.istore 4, 2) := by decide +kernel
theorem dX8_signs_152 : decode cX8_signs 152 = .ok (.iload 5, 2) := by decide +kernel
theorem dX8_signs_154 : decode cX8_signs 154 = .ok (.istore_n 3, 1) := by decide +kernel
theorem dX8_signs_155 : decode cX8_signs 155 = .ok (.iinc 5 1, 3) := by decide +kernel
theorem dX8_signs_158 : decode cX8_signs 158 = .ok (.goto (-124), 3) := by decide +kernel
theorem dX8_signs_161 : decode cX8_signs 161 = .ok (.iload_n 2, 1) := by decide +kernel
theorem dX8_signs_162 : decode cX8_signs 162 = .ok (.ifCond .ne 11, 3) := by decide +kernel
theorem dX8_signs_165 : decode cX8_signs 165 = .ok (.aload_n 0, 1) := by decide +kernel
theorem dX8_signs_166 : decode cX8_signs 166 = .ok (.iload_n 3, 1) := by decide +kernel
theorem dX8_signs_167 : decode cX8_signs 167 = .ok (.invokevirtual 123, 3) := by decide +kernel
theorem dX8_signs_170 : decode cX8_signs 170 = .ok (.goto 4, 3) := by decide +kernel
theorem dX8_signs_173 : decode cX8_signs 173 = .ok (.iload_n 3, 1) := by decide +kernel
theorem dX8_signs_174 : decode cX8_signs 174 = .ok (.ireturn, 1) := by decide +kernel
theorem dX8_digit_0 : decode cX8_digit 0 = .ok (.iload_n 1, 1) := by decide +kernel
theorem dX8_digit_1 : decode cX8_digit 1 = .ok (.iconst 3, 1) := by decide +kernel
theorem dX8_digit_2 : decode cX8_digit 2 = .ok (.iload_n 2, 1) := by decide +kernel
theorem dX8_digit_3 : decode cX8_digit 3 = .ok (.imul, 1) := by decide +kernel
theorem dX8_digit_4 : decode cX8_digit 4 = .ok (.ishr, 1) := by decide +kernel
theorem dX8_digit_5 : decode cX8_digit 5 = .ok (.bipush 7, 2) := by decide +kernel
theorem dX8_digit_7 : decode cX8_digit 7 = .ok (.iand, 1) := by decide +kernel
theorem dX8_digit_8 : decode cX8_digit 8 = .ok (.ireturn, 1) := by decide +kernel
theorem dX8_behind_0 : decode cX8_behind 0 = .ok (.iload_n 1, 1) := by decide +kernel
theorem dX8_behind_1 : decode cX8_behind 1 = .ok (.istore_n 3, 1) := by decide +kernel
theorem dX8_behind_2 : decode cX8_behind 2 = .ok (.iconst 0, 1) := by decide +kernel
theorem dX8_behind_3 : decode cX8_behind 3 = .ok (.istore 4, 2) := by decide +kernel
theorem dX8_behind_5 : decode cX8_behind 5 = .ok (.iload 4, 2) := by decide +kernel
theorem dX8_behind_7 : decode cX8_behind 7 = .ok (.aload_n 0, 1) := by decide +kernel
theorem dX8_behind_8 : decode cX8_behind 8 = .ok (.getfield 120, 3) := by decide +kernel
theorem dX8_behind_11 : decode cX8_behind 11 = .ok (.if_icmp .ge 56, 3) := by decide +kernel
theorem dX8_behind_14 : decode cX8_behind 14 = .ok (.aload_n 0, 1) := by decide +kernel
theorem dX8_behind_15 : decode cX8_behind 15 = .ok (.iload_n 1, 1) := by decide +kernel
theorem dX8_behind_16 : decode cX8_behind 16 = .ok (.iload 4, 2) := by decide +kernel
theorem dX8_behind_18 : decode cX8_behind 18 = .ok (.invokevirtual 127, 3) := by decide +kernel
theorem dX8_behind_21 : decode cX8_behind 21 = .ok (.istore 5, 2) := by decide +kernel
theorem dX8_behind_23 : decode cX8_behind 23 = .ok (.iload 5, 2) := by decide +kernel
theorem dX8_behind_25 : decode cX8_behind 25 = .ok (.aload_n 0, 1) := by decide +kernel
theorem dX8_behind_26 : decode cX8_behind 26 = .ok (.getfield 38, 3) := by decide +kernel
theorem dX8_behind_29 : decode cX8_behind 29 = .ok (.iload 4, 2) := by decide +kernel
theorem dX8_behind_31 : decode cX8_behind 31 = .ok (.iaload, 1) := by decide +kernel
theorem dX8_behind_32 : decode cX8_behind 32 = .ok (.if_icmp .ge 29, 3) := by decide +kernel
theorem dX8_behind_35 : decode cX8_behind 35 = .ok (.aload_n 0, 1) := by decide +kernel
theorem dX8_behind_36 : decode cX8_behind 36 = .ok (.getfield 41, 3) := by decide +kernel
theorem dX8_behind_39 : decode cX8_behind 39 = .ok (.bipush 7, 2) := by decide +kernel
theorem dX8_behind_41 : decode cX8_behind 41 = .ok (.iload 4, 2) := by decide +kernel
theorem dX8_behind_43 : decode cX8_behind 43 = .ok (.imul, 1) := by decide +kernel
theorem dX8_behind_44 : decode cX8_behind 44 = .ok (.iload 5, 2) := by decide +kernel
theorem dX8_behind_46 : decode cX8_behind 46 = .ok (.iadd, 1) := by decide +kernel
theorem dX8_behind_47 : decode cX8_behind 47 = .ok (.iaload, 1) := by decide +kernel
theorem dX8_behind_48 : decode cX8_behind 48 = .ok (.iload_n 2, 1) := by decide +kernel
theorem dX8_behind_49 : decode cX8_behind 49 = .ok (.if_icmp .ne 12, 3) := by decide +kernel
theorem dX8_behind_52 : decode cX8_behind 52 = .ok (.iload_n 3, 1) := by decide +kernel
theorem dX8_behind_53 : decode cX8_behind 53 = .ok (.iconst 1, 1) := by decide +kernel
theorem dX8_behind_54 : decode cX8_behind 54 = .ok (.iconst 3, 1) := by decide +kernel
theorem dX8_behind_55 : decode cX8_behind 55 = .ok (.iload 4, 2) := by decide +kernel
theorem dX8_behind_57 : decode cX8_behind 57 = .ok (.imul, 1) := by decide +kernel
theorem dX8_behind_58 : decode cX8_behind 58 = .ok (.ishl, 1) := by decide +kernel
theorem dX8_behind_59 : decode cX8_behind 59 = .ok (.iadd, 1) := by decide +kernel
theorem dX8_behind_60 : decode cX8_behind 60 = .ok (.istore_n 3, 1) := by decide +kernel
theorem dX8_behind_61 : decode cX8_behind 61 = .ok (.iinc 4 1, 3) := by decide +kernel
theorem dX8_behind_64 : decode cX8_behind 64 = .ok (.goto (-59), 3) := by decide +kernel
theorem dX8_behind_67 : decode cX8_behind 67 = .ok (.iload_n 3, 1) := by decide +kernel
theorem dX8_behind_68 : decode cX8_behind 68 = .ok (.ireturn, 1) := by decide +kernel
theorem dX8_isPlace_0 : decode cX8_isPlace 0 = .ok (.iconst 0, 1) := by decide +kernel
theorem dX8_isPlace_1 : decode cX8_isPlace 1 = .ok (.istore_n 2, 1) := by decide +kernel
theorem dX8_isPlace_2 : decode cX8_isPlace 2 = .ok (.iload_n 2, 1) := by decide +kernel
theorem dX8_isPlace_3 : decode cX8_isPlace 3 = .ok (.aload_n 0, 1) := by decide +kernel
theorem dX8_isPlace_4 : decode cX8_isPlace 4 = .ok (.getfield 120, 3) := by decide +kernel
theorem dX8_isPlace_7 : decode cX8_isPlace 7 = .ok (.if_icmp .ge 26, 3) := by decide +kernel
theorem dX8_isPlace_10 : decode cX8_isPlace 10 = .ok (.aload_n 0, 1) := by decide +kernel
theorem dX8_isPlace_11 : decode cX8_isPlace 11 = .ok (.iload_n 1, 1) := by decide +kernel
theorem dX8_isPlace_12 : decode cX8_isPlace 12 = .ok (.iload_n 2, 1) := by decide +kernel
theorem dX8_isPlace_13 : decode cX8_isPlace 13 = .ok (.invokevirtual 127, 3) := by decide +kernel
theorem dX8_isPlace_16 : decode cX8_isPlace 16 = .ok (.aload_n 0, 1) := by decide +kernel
theorem dX8_isPlace_17 : decode cX8_isPlace 17 = .ok (.getfield 38, 3) := by decide +kernel
theorem dX8_isPlace_20 : decode cX8_isPlace 20 = .ok (.iload_n 2, 1) := by decide +kernel
theorem dX8_isPlace_21 : decode cX8_isPlace 21 = .ok (.iaload, 1) := by decide +kernel
theorem dX8_isPlace_22 : decode cX8_isPlace 22 = .ok (.if_icmp .le 5, 3) := by decide +kernel
theorem dX8_isPlace_25 : decode cX8_isPlace 25 = .ok (.iconst 0, 1) := by decide +kernel
theorem dX8_isPlace_26 : decode cX8_isPlace 26 = .ok (.ireturn, 1) := by decide +kernel
theorem dX8_isPlace_27 : decode cX8_isPlace 27 = .ok (.iinc 2 1, 3) := by decide +kernel
theorem dX8_isPlace_30 : decode cX8_isPlace 30 = .ok (.goto (-28), 3) := by decide +kernel
theorem dX8_isPlace_33 : decode cX8_isPlace 33 = .ok (.iconst 1, 1) := by decide +kernel
theorem dX8_isPlace_34 : decode cX8_isPlace 34 = .ok (.ireturn, 1) := by decide +kernel
theorem dX8_findRows_0 : decode cX8_findRows 0 = .ok (.iconst 0, 1) := by decide +kernel
theorem dX8_findRows_1 : decode cX8_findRows 1 = .ok (.istore_n 1, 1) := by decide +kernel
theorem dX8_findRows_2 : decode cX8_findRows 2 = .ok (.iconst 0, 1) := by decide +kernel
