theorem dX0_init_0 : decode cX0_init 0 = .ok (.aload_n 0, 1) := by decide +kernel
theorem dX0_init_1 : decode cX0_init 1 = .ok (.invokespecial 3, 3) := by decide +kernel
theorem dX0_init_4 : decode cX0_init 4 = .ok (.aload_n 0, 1) := by decide +kernel
theorem dX0_init_5 : decode cX0_init 5 = .ok (.bipush 6, 2) := by decide +kernel
theorem dX0_init_7 : decode cX0_init 7 = .ok (.newarray .int, 2) := by decide +kernel
theorem dX0_init_9 : decode cX0_init 9 = .ok (.putfield 9, 3) := by decide +kernel
theorem dX0_init_12 : decode cX0_init 12 = .ok (.aload_n 0, 1) := by decide +kernel
theorem dX0_init_13 : decode cX0_init 13 = .ok (.bipush 6, 2) := by decide +kernel
theorem dX0_init_15 : decode cX0_init 15 = .ok (.newarray .int, 2) := by decide +kernel
theorem dX0_init_17 : decode cX0_init 17 = .ok (.putfield 15, 3) := by decide +kernel
theorem dX0_init_20 : decode cX0_init 20 = .ok (.aload_n 0, 1) := by decide +kernel
theorem dX0_init_21 : decode cX0_init 21 = .ok (.bipush 64, 2) := by decide +kernel
theorem dX0_init_23 : decode cX0_init 23 = .ok (.newarray .int, 2) := by decide +kernel
theorem dX0_init_25 : decode cX0_init 25 = .ok (.putfield 18, 3) := by decide +kernel
theorem dX0_init_28 : decode cX0_init 28 = .ok (.return_, 1) := by decide +kernel
theorem dX0_arrange_0 : decode cX0_arrange 0 = .ok (.aload_n 0, 1) := by decide +kernel
theorem dX0_arrange_1 : decode cX0_arrange 1 = .ok (.iload_n 2, 1) := by decide +kernel
theorem dX0_arrange_2 : decode cX0_arrange 2 = .ok (.putfield 21, 3) := by decide +kernel
theorem dX0_arrange_5 : decode cX0_arrange 5 = .ok (.aload_n 0, 1) := by decide +kernel
theorem dX0_arrange_6 : decode cX0_arrange 6 = .ok (.iconst 0, 1) := by decide +kernel
theorem dX0_arrange_7 : decode cX0_arrange 7 = .ok (.putfield 25, 3) := by decide +kernel
theorem dX0_arrange_10 : decode cX0_arrange 10 = .ok (.iconst 0, 1) := by decide +kernel
theorem dX0_arrange_11 : decode cX0_arrange 11 = .ok (.istore_n 3, 1) := by decide +kernel
theorem dX0_arrange_12 : decode cX0_arrange 12 = .ok (.iload_n 3, 1) := by decide +kernel
theorem dX0_arrange_13 : decode cX0_arrange 13 = .ok (.iload_n 2, 1) := by decide +kernel
theorem dX0_arrange_14 : decode cX0_arrange 14 = .ok (.if_icmp .ge 21, 3) := by decide +kernel
theorem dX0_arrange_17 : decode cX0_arrange 17 = .ok (.aload_n 0, 1) := by decide +kernel
theorem dX0_arrange_18 : decode cX0_arrange 18 = .ok (.getfield 15, 3) := by decide +kernel
theorem dX0_arrange_21 : decode cX0_arrange 21 = .ok (.iload_n 3, 1) := by decide +kernel
theorem dX0_arrange_22 : decode cX0_arrange 22 = .ok (.aload_n 0, 1) := by decide +kernel
theorem dX0_arrange_23 : decode cX0_arrange 23 = .ok (.aload_n 1, 1) := by decide +kernel
theorem dX0_arrange_24 : decode cX0_arrange 24 = .ok (.iload_n 3, 1) := by decide +kernel
theorem dX0_arrange_25 : decode cX0_arrange 25 = .ok (.invokevirtual 28, 3) := by decide +kernel
theorem dX0_arrange_28 : decode cX0_arrange 28 = .ok (.iastore, 1) := by decide +kernel
theorem dX0_arrange_29 : decode cX0_arrange 29 = .ok (.iinc 3 1, 3) := by decide +kernel
theorem dX0_arrange_32 : decode cX0_arrange 32 = .ok (.goto (-20), 3) := by decide +kernel
theorem dX0_arrange_35 : decode cX0_arrange 35 = .ok (.iconst 0, 1) := by decide +kernel
theorem dX0_arrange_36 : decode cX0_arrange 36 = .ok (.istore_n 3, 1) := by decide +kernel
theorem dX0_arrange_37 : decode cX0_arrange 37 = .ok (.iload_n 3, 1) := by decide +kernel
theorem dX0_arrange_38 : decode cX0_arrange 38 = .ok (.iload_n 2, 1) := by decide +kernel
theorem dX0_arrange_39 : decode cX0_arrange 39 = .ok (.if_icmp .ge 58, 3) := by decide +kernel
theorem dX0_arrange_42 : decode cX0_arrange 42 = .ok (.iconst 0, 1) := by decide +kernel
theorem dX0_arrange_43 : decode cX0_arrange 43 = .ok (.istore 4, 2) := by decide +kernel
theorem dX0_arrange_45 : decode cX0_arrange 45 = .ok (.iload 4, 2) := by decide +kernel
theorem dX0_arrange_47 : decode cX0_arrange 47 = .ok (.iload_n 3, 1) := by decide +kernel
theorem dX0_arrange_48 : decode cX0_arrange 48 = .ok (.if_icmp .ge 43, 3) := by decide +kernel
theorem dX0_arrange_51 : decode cX0_arrange 51 = .ok (.aload_n 0, 1) := by decide +kernel
theorem dX0_arrange_52 : decode cX0_arrange 52 = .ok (.dup, 1) := by decide +kernel
theorem dX0_arrange_53 : decode cX0_arrange 53 = .ok (.getfield 25, 3) := by decide +kernel
theorem dX0_arrange_56 : decode cX0_arrange 56 = .ok (.aload_n 0, 1) := by decide +kernel
theorem dX0_arrange_57 : decode cX0_arrange 57 = .ok (.iload_n 3, 1) := by decide +kernel
theorem dX0_arrange_58 : decode cX0_arrange 58 = .ok (.iload 4, 2) := by decide +kernel
theorem dX0_arrange_60 : decode cX0_arrange 60 = .ok (.invokevirtual 32, 3) := by decide +kernel
theorem dX0_arrange_63 : decode cX0_arrange 63 = .ok (.ifCond .eq 17, 3) := by decide +kernel
theorem dX0_arrange_66 : decode cX0_arrange 66 = .ok (.aload_n 0, 1) := by decide +kernel
theorem dX0_arrange_67 : decode cX0_arrange 67 = .ok (.iload 4, 2) := by decide +kernel
theorem dX0_arrange_69 : decode cX0_arrange 69 = .ok (.iload_n 3, 1) := by decide +kernel
theorem dX0_arrange_70 : decode cX0_arrange 70 = .ok (.invokevirtual 32, 3) := by decide +kernel
theorem dX0_arrange_73 : decode cX0_arrange 73 = .ok (.ifCond .eq 7, 3) := by decide +kernel
theorem dX0_arrange_76 : decode cX0_arrange 76 = .ok (.iconst 1, 1) := by decide +kernel
theorem dX0_arrange_77 : decode cX0_arrange 77 = .ok (.goto 4, 3) := by decide +kernel
theorem dX0_arrange_80 : decode cX0_arrange 80 = .ok (.iconst 0, 1) := by decide +kernel
theorem dX0_arrange_81 : decode cX0_arrange 81 = .ok (.iadd, 1) := by decide +kernel
theorem dX0_arrange_82 : decode cX0_arrange 82 = .ok (.putfield 25, 3) := by decide +kernel
theorem dX0_arrange_85 : decode cX0_arrange 85 = .ok (.iinc 4 1, 3) := by decide +kernel
theorem dX0_arrange_88 : decode cX0_arrange 88 = .ok (.goto (-43), 3) := by decide +kernel
theorem dX0_arrange_91 : decode cX0_arrange 91 = .ok (.iinc 3 1, 3) := by decide +kernel
theorem dX0_arrange_94 : decode cX0_arrange 94 = .ok (.goto (-57), 3) := by decide +kernel
theorem dX0_arrange_97 : decode cX0_arrange 97 = .ok (.aload_n 0, 1) := by decide +kernel
theorem dX0_arrange_98 : decode cX0_arrange 98 = .ok (.invokevirtual 36, 3) := by decide +kernel
theorem dX0_arrange_101 : decode cX0_arrange 101 = .ok (.aload_n 0, 1) := by decide +kernel
theorem dX0_arrange_102 : decode cX0_arrange 102 = .ok (.aload_n 0, 1) := by decide +kernel
theorem dX0_arrange_103 : decode cX0_arrange 103 = .ok (.getfield 18, 3) := by decide +kernel
theorem dX0_arrange_106 : decode cX0_arrange 106 = .ok (.iconst 0, 1) := by decide +kernel
theorem dX0_arrange_107 : decode cX0_arrange 107 = .ok (.iaload, 1) := by decide +kernel
theorem dX0_arrange_108 : decode cX0_arrange 108 = .ok (.putfield 39, 3) := by decide +kernel
theorem dX0_arrange_111 : decode cX0_arrange 111 = .ok (.aload_n 0, 1) := by decide +kernel
theorem dX0_arrange_112 : decode cX0_arrange 112 = .ok (.invokevirtual 42, 3) := by decide +kernel
theorem dX0_arrange_115 : decode cX0_arrange 115 = .ok (.return_, 1) := by decide +kernel
theorem dX0_wouldBreach_0 : decode cX0_wouldBreach 0 = .ok (.aload_n 0, 1) := by decide +kernel
theorem dX0_wouldBreach_1 : decode cX0_wouldBreach 1 = .ok (.getfield 15, 3) := by decide +kernel
theorem dX0_wouldBreach_4 : decode cX0_wouldBreach 4 = .ok (.iload_n 1, 1) := by decide +kernel
theorem dX0_wouldBreach_5 : decode cX0_wouldBreach 5 = .ok (.iaload, 1) := by decide +kernel
theorem dX0_wouldBreach_6 : decode cX0_wouldBreach 6 = .ok (.iload_n 2, 1) := by decide +kernel
theorem dX0_wouldBreach_7 : decode cX0_wouldBreach 7 = .ok (.ishr, 1) := by decide +kernel
theorem dX0_wouldBreach_8 : decode cX0_wouldBreach 8 = .ok (.iconst 1, 1) := by decide +kernel
theorem dX0_wouldBreach_9 : decode cX0_wouldBreach 9 = .ok (.iand, 1) := by decide +kernel
theorem dX0_wouldBreach_10 : decode cX0_wouldBreach 10 = .ok (.ifCond .eq 7, 3) := by decide +kernel
theorem dX0_wouldBreach_13 : decode cX0_wouldBreach 13 = .ok (.iconst 1, 1) := by decide +kernel
theorem dX0_wouldBreach_14 : decode cX0_wouldBreach 14 = .ok (.goto 4, 3) := by decide +kernel
theorem dX0_wouldBreach_17 : decode cX0_wouldBreach 17 = .ok (.iconst 0, 1) := by decide +kernel
theorem dX0_wouldBreach_18 : decode cX0_wouldBreach 18 = .ok (.ireturn, 1) := by decide +kernel
theorem dX0_breachedBy_0 : decode cX0_breachedBy 0 = .ok (.iconst 0, 1) := by decide +kernel
theorem dX0_breachedBy_1 : decode cX0_breachedBy 1 = .ok (.istore_n 3, 1) := by decide +kernel
theorem dX0_breachedBy_2 : decode cX0_breachedBy 2 = .ok (.iconst 0, 1) := by decide +kernel
theorem dX0_breachedBy_3 : decode cX0_breachedBy 3 = .ok (.istore 4, 2) := by decide +kernel
theorem dX0_breachedBy_5 : decode cX0_breachedBy 5 = .ok (.iload 4, 2) := by decide +kernel
theorem dX0_breachedBy_7 : decode cX0_breachedBy 7 = .ok (.aload_n 0, 1) := by decide +kernel
theorem dX0_breachedBy_8 : decode cX0_breachedBy 8 = .ok (.getfield 21, 3) := by decide +kernel
theorem dX0_breachedBy_11 : decode cX0_breachedBy 11 = .ok (.if_icmp .ge 35, 3) := by decide +kernel
theorem dX0_breachedBy_14 : decode cX0_breachedBy 14 = .ok (.iload 4, 2) := by decide +kernel
theorem dX0_breachedBy_16 : decode cX0_breachedBy 16 = .ok (.iload_n 2, 1) := by decide +kernel
theorem dX0_breachedBy_17 : decode cX0_breachedBy 17 = .ok (.if_icmp .eq 23, 3) := by decide +kernel
theorem dX0_breachedBy_20 : decode cX0_breachedBy 20 = .ok (.aload_n 1, 1) := by decide +kernel
theorem dX0_breachedBy_21 : decode cX0_breachedBy 21 = .ok (.iload_n 2, 1) := by decide +kernel
theorem dX0_breachedBy_22 : decode cX0_breachedBy 22 = .ok (.aaload, 1) := by decide +kernel
theorem dX0_breachedBy_23 : decode cX0_breachedBy 23 = .ok (.aload_n 1, 1) := by decide +kernel
theorem dX0_breachedBy_24 : decode cX0_breachedBy 24 = .ok (.iload 4, 2) := by decide +kernel
theorem dX0_breachedBy_26 : decode cX0_breachedBy 26 = .ok (.aaload, 1) := by decide +kernel
theorem dX0_breachedBy_27 : decode cX0_breachedBy 27 = .ok (.invokevirtual 45, 3) := by decide +kernel
theorem dX0_breachedBy_30 : decode cX0_breachedBy 30 = .ok (.ifCond .eq 10, 3) := by decide +kernel
theorem dX0_breachedBy_33 : decode cX0_breachedBy 33 = .ok (.iload_n 3, 1) := by decide +kernel
theorem dX0_breachedBy_34 : decode cX0_breachedBy 34 = .ok (.iconst 1, 1) := by decide +kernel
theorem dX0_breachedBy_35 : decode cX0_breachedBy 35 = .ok (.iload 4, 2) := by decide +kernel
theorem dX0_breachedBy_37 : decode cX0_breachedBy 37 = .ok (.ishl, 1) := by decide +kernel
theorem dX0_breachedBy_38 : decode cX0_breachedBy 38 = .ok (.ior, 1) := by decide +kernel
theorem dX0_breachedBy_39 : decode cX0_breachedBy 39 = .ok (.istore_n 3, 1) := by decide +kernel
theorem dX0_breachedBy_40 : decode cX0_breachedBy 40 = .ok (.iinc 4 1, 3) := by decide +kernel
theorem dX0_breachedBy_43 : decode cX0_breachedBy 43 = .ok (.goto (-38), 3) := by decide +kernel
theorem dX0_breachedBy_46 : decode cX0_breachedBy 46 = .ok (.iload_n 3, 1) := by decide +kernel
theorem dX0_breachedBy_47 : decode cX0_breachedBy 47 = .ok (.ireturn, 1) := by decide +kernel
theorem dX0_fillFewest_0 : decode cX0_fillFewest 0 = .ok (.iconst 1, 1) := by decide +kernel
theorem dX0_fillFewest_1 : decode cX0_fillFewest 1 = .ok (.aload_n 0, 1) := by decide +kernel
theorem dX0_fillFewest_2 : decode cX0_fillFewest 2 = .ok (.getfield 21, 3) := by decide +kernel
theorem dX0_fillFewest_5 : decode cX0_fillFewest 5 = .ok (.ishl, 1) := by decide +kernel
theorem dX0_fillFewest_6 : decode cX0_fillFewest 6 = .ok (.iconst 1, 1) := by decide +kernel
theorem dX0_fillFewest_7 : decode cX0_fillFewest 7 = .ok (.isub, 1) := by decide +kernel
theorem dX0_fillFewest_8 : decode cX0_fillFewest 8 = .ok (.istore_n 1, 1) := by decide +kernel
theorem dX0_fillFewest_9 : decode cX0_fillFewest 9 = .ok (.aload_n 0, 1) := by decide +kernel
theorem dX0_fillFewest_10 : decode cX0_fillFewest 10 = .ok (.getfield 18, 3) := by decide +kernel
theorem dX0_fillFewest_13 : decode cX0_fillFewest 13 = .ok (.iload_n 1, 1) := by decide +kernel
theorem dX0_fillFewest_14 : decode cX0_fillFewest 14 = .ok (.iconst 0, 1) := by decide +kernel
theorem dX0_fillFewest_15 : decode cX0_fillFewest 15 = .ok (.iastore, 1) := by decide +kernel
theorem dX0_fillFewest_16 : decode cX0_fillFewest 16 = .ok (.iload_n 1, 1) := by decide +kernel
theorem dX0_fillFewest_17 : decode cX0_fillFewest 17 = .ok (.iconst 1, 1) := by decide +kernel
theorem dX0_fillFewest_18 : decode cX0_fillFewest 18 = .ok (.isub, 1) := by decide +kernel
theorem dX0_fillFewest_19 : decode cX0_fillFewest 19 = .ok (.istore_n 2, 1) := by decide +kernel
theorem dX0_fillFewest_20 : decode cX0_fillFewest 20 = .ok (.iload_n 2, 1) := by decide +kernel
theorem dX0_fillFewest_21 : decode cX0_fillFewest 21 = .ok (.ifCond .lt 58, 3) := by decide +kernel
theorem dX0_fillFewest_24 : decode cX0_fillFewest 24 = .ok (.bipush 36, 2) := by decide +kernel
theorem dX0_fillFewest_26 : decode cX0_fillFewest 26 = .ok (.istore_n 3, 1) := by decide +kernel
theorem dX0_fillFewest_27 : decode cX0_fillFewest 27 = .ok (.iconst 0, 1) := by decide +kernel
theorem dX0_fillFewest_28 : decode cX0_fillFewest 28 = .ok (.istore 4, 2) := by decide +kernel
theorem dX0_fillFewest_30 : decode cX0_fillFewest 30 = .ok (.iload 4, 2) := by decide +kernel
theorem dX0_fillFewest_32 : decode cX0_fillFewest 32 = .ok (.aload_n 0, 1) := by decide +kernel
theorem dX0_fillFewest_33 : decode cX0_fillFewest 33 = .ok (.getfield 21, 3) := by decide +kernel
theorem dX0_fillFewest_36 : decode cX0_fillFewest 36 = .ok (.if_icmp .ge 30, 3) := by decide +kernel
theorem dX0_fillFewest_39 : decode cX0_fillFewest 39 = .ok (.iload_n 2, 1) := by decide +kernel
theorem dX0_fillFewest_40 : decode cX0_fillFewest 40 = .ok (.iload 4, 2) := by decide +kernel
theorem dX0_fillFewest_42 : decode cX0_fillFewest 42 = .ok (.ishr, 1) := by decide +kernel
theorem dX0_fillFewest_43 : decode cX0_fillFewest 43 = .ok (.iconst 1, 1) := by decide +kernel
theorem dX0_fillFewest_44 : decode cX0_fillFewest 44 = .ok (.iand, 1) := by decide +kernel
theorem dX0_fillFewest_45 : decode cX0_fillFewest 45 = .ok (.ifCond .ne 15, 3) := by decide +kernel
theorem dX0_fillFewest_48 : decode cX0_fillFewest 48 = .ok (.iload_n 3, 1) := by decide +kernel
theorem dX0_fillFewest_49 : decode cX0_fillFewest 49 = .ok (.aload_n 0, 1) := by decide +kernel
theorem dX0_fillFewest_50 : decode cX0_fillFewest 50 = .ok (.iload_n 2, 1) := by decide +kernel
theorem dX0_fillFewest_51 : decode cX0_fillFewest 51 = .ok (.iload 4, 2) := by decide +kernel
theorem dX0_fillFewest_53 : decode cX0_fillFewest 53 = .ok (.invokevirtual 51, 3) := by decide +kernel
theorem dX0_fillFewest_56 : decode cX0_fillFewest 56 = .ok (.invokestatic 55, 3) := by decide +kernel
theorem dX0_fillFewest_59 : decode cX0_fillFewest 59 = .ok (.istore_n 3, 1) := by decide +kernel
theorem dX0_fillFewest_60 : decode cX0_fillFewest 60 = .ok (.iinc 4 1, 3) := by decide +kernel
theorem dX0_fillFewest_63 : decode cX0_fillFewest 63 = .ok (.goto (-33), 3) := by decide +kernel
theorem dX0_fillFewest_66 : decode cX0_fillFewest 66 = .ok (.aload_n 0, 1) := by decide +kernel
theorem dX0_fillFewest_67 : decode cX0_fillFewest 67 = .ok (.getfield 18, 3) := by decide +kernel
theorem dX0_fillFewest_70 : decode cX0_fillFewest 70 = .ok (.iload_n 2, 1) := by decide +kernel
theorem dX0_fillFewest_71 : decode cX0_fillFewest 71 = .ok (.iload_n 3, 1) := by decide +kernel
theorem dX0_fillFewest_72 : decode cX0_fillFewest 72 = .ok (.iastore, 1) := by decide +kernel
theorem dX0_fillFewest_73 : decode cX0_fillFewest 73 = .ok (.iinc 2 (-1), 3) := by decide +kernel
theorem dX0_fillFewest_76 : decode cX0_fillFewest 76 = .ok (.goto (-56), 3) := by decide +kernel
theorem dX0_fillFewest_79 : decode cX0_fillFewest 79 = .ok (.return_, 1) := by decide +kernel
theorem dX0_fewestWith_0 : decode cX0_fewestWith 0 = .ok (.aload_n 0, 1) := by decide +kernel
theorem dX0_fewestWith_1 : decode cX0_fewestWith 1 = .ok (.getfield 15, 3) := by decide +kernel
theorem dX0_fewestWith_4 : decode cX0_fewestWith 4 = .ok (.iload_n 2, 1) := by decide +kernel
theorem dX0_fewestWith_5 : decode cX0_fewestWith 5 = .ok (.iaload, 1) := by decide +kernel
theorem dX0_fewestWith_6 : decode cX0_fewestWith 6 = .ok (.iload_n 1, 1) := by decide +kernel
theorem dX0_fewestWith_7 : decode cX0_fewestWith 7 = .ok (.iand, 1) := by decide +kernel
theorem dX0_fewestWith_8 : decode cX0_fewestWith 8 = .ok (.invokestatic 60, 3) := by decide +kernel
theorem dX0_fewestWith_11 : decode cX0_fewestWith 11 = .ok (.aload_n 0, 1) := by decide +kernel
theorem dX0_fewestWith_12 : decode cX0_fewestWith 12 = .ok (.getfield 18, 3) := by decide +kernel
theorem dX0_fewestWith_15 : decode cX0_fewestWith 15 = .ok (.iload_n 1, 1) := by decide +kernel
theorem dX0_fewestWith_16 : decode cX0_fewestWith 16 = .ok (.iconst 1, 1) := by decide +kernel
theorem dX0_fewestWith_17 : decode cX0_fewestWith 17 = .ok (.iload_n 2, 1) := by decide +kernel
theorem dX0_fewestWith_18 : decode cX0_fewestWith 18 = .ok (.ishl, 1) := by decide +kernel
theorem dX0_fewestWith_19 : decode cX0_fewestWith 19 = .ok (.ior, 1) := by decide +kernel
theorem dX0_fewestWith_20 : decode cX0_fewestWith 20 = .ok (.iaload, 1) := by decide +kernel
theorem dX0_fewestWith_21 : decode cX0_fewestWith 21 = .ok (.iadd, 1) := by decide +kernel
theorem dX0_fewestWith_22 : decode cX0_fewestWith 22 = .ok (.ireturn, 1) := by decide +kernel
theorem dX0_setOrder_0 : decode cX0_setOrder 0 = .ok (.iconst 0, 1) := by decide +kernel
theorem dX0_setOrder_1 : decode cX0_setOrder 1 = .ok (.istore_n 1, 1) := by decide +kernel
theorem dX0_setOrder_2 : decode cX0_setOrder 2 = .ok (.iconst 0, 1) := by decide +kernel
theorem dX0_setOrder_3 : decode cX0_setOrder 3 = .ok (.istore_n 2, 1) := by decide +kernel
theorem dX0_setOrder_4 : decode cX0_setOrder 4 = .ok (.iload_n 2, 1) := by decide +kernel
theorem dX0_setOrder_5 : decode cX0_setOrder 5 = .ok (.aload_n 0, 1) := by decide +kernel
theorem dX0_setOrder_6 : decode cX0_setOrder 6 = .ok (.getfield 21, 3) := by decide +kernel
theorem dX0_setOrder_9 : decode cX0_setOrder 9 = .ok (.if_icmp .ge 28, 3) := by decide +kernel
theorem dX0_setOrder_12 : decode cX0_setOrder 12 = .ok (.aload_n 0, 1) := by decide +kernel
theorem dX0_setOrder_13 : decode cX0_setOrder 13 = .ok (.iload_n 1, 1) := by decide +kernel
theorem dX0_setOrder_14 : decode cX0_setOrder 14 = .ok (.invokevirtual 66, 3) := by decide +kernel
theorem dX0_setOrder_17 : decode cX0_setOrder 17 = .ok (.istore_n 3, 1) := by decide +kernel
theorem dX0_setOrder_18 : decode cX0_setOrder 18 = .ok (.aload_n 0, 1) := by decide +kernel
theorem dX0_setOrder_19 : decode cX0_setOrder 19 = .ok (.getfield 9, 3) := by decide +kernel
theorem dX0_setOrder_22 : decode cX0_setOrder 22 = .ok (.iload_n 2, 1) := by decide +kernel
theorem dX0_setOrder_23 : decode cX0_setOrder 23 = .ok (.iload_n 3, 1) := by decide +kernel
theorem dX0_setOrder_24 : decode cX0_setOrder 24 = .ok (.iastore, 1) := by decide +kernel
theorem dX0_setOrder_25 : decode cX0_setOrder 25 = .ok (.iload_n 1, 1) := by decide +kernel
theorem dX0_setOrder_26 : decode cX0_setOrder 26 = .ok (.iconst 1, 1) := by decide +kernel
theorem dX0_setOrder_27 : decode cX0_setOrder 27 = .ok (.iload_n 3, 1) := by decide +kernel
theorem dX0_setOrder_28 : decode cX0_setOrder 28 = .ok (.ishl, 1) := by decide +kernel
theorem dX0_setOrder_29 : decode cX0_setOrder 29 = .ok (.ior, 1) := by decide +kernel
theorem dX0_setOrder_30 : decode cX0_setOrder 30 = .ok (.istore_n 1, 1) := by decide +kernel
theorem dX0_setOrder_31 : decode cX0_setOrder 31 = .ok (.iinc 2 1, 3) := by decide +kernel
theorem dX0_setOrder_34 : decode cX0_setOrder 34 = .ok (.goto (-30), 3) := by decide +kernel
theorem dX0_setOrder_37 : decode cX0_setOrder 37 = .ok (.return_, 1) := by decide +kernel
theorem dX0_firstBehind_0 : decode cX0_firstBehind 0 = .ok (.iconst 0, 1) := by decide +kernel
theorem dX0_firstBehind_1 : decode cX0_firstBehind 1 = .ok (.istore_n 2, 1) := by decide +kernel
theorem dX0_firstBehind_2 : decode cX0_firstBehind 2 = .ok (.iload_n 2, 1) := by decide +kernel
theorem dX0_firstBehind_3 : decode cX0_firstBehind 3 = .ok (.aload_n 0, 1) := by decide +kernel
theorem dX0_firstBehind_4 : decode cX0_firstBehind 4 = .ok (.getfield 21, 3) := by decide +kernel
theorem dX0_firstBehind_7 : decode cX0_firstBehind 7 = .ok (.iconst 1, 1) := by decide +kernel
theorem dX0_firstBehind_8 : decode cX0_firstBehind 8 = .ok (.isub, 1) := by decide +kernel
theorem dX0_firstBehind_9 : decode cX0_firstBehind 9 = .ok (.if_icmp .ge 32, 3) := by decide +kernel
theorem dX0_firstBehind_12 : decode cX0_firstBehind 12 = .ok (.iload_n 1, 1) := by decide +kernel
theorem dX0_firstBehind_13 : decode cX0_firstBehind 13 = .ok (.iload_n 2, 1) := by decide +kernel
theorem dX0_firstBehind_14 : decode cX0_firstBehind 14 = .ok (.ishr, 1) := by decide +kernel
theorem dX0_firstBehind_15 : decode cX0_firstBehind 15 = .ok (.iconst 1, 1) := by decide +kernel
theorem dX0_firstBehind_16 : decode cX0_firstBehind 16 = .ok (.iand, 1) := by decide +kernel
theorem dX0_firstBehind_17 : decode cX0_firstBehind 17 = .ok (.ifCond .ne 18, 3) := by decide +kernel
theorem dX0_firstBehind_20 : decode cX0_firstBehind 20 = .ok (.aload_n 0, 1) := by decide +kernel
theorem dX0_firstBehind_21 : decode cX0_firstBehind 21 = .ok (.iload_n 1, 1) := by decide +kernel
theorem dX0_firstBehind_22 : decode cX0_firstBehind 22 = .ok (.iload_n 2, 1) := by decide +kernel
theorem dX0_firstBehind_23 : decode cX0_firstBehind 23 = .ok (.invokevirtual 51, 3) := by decide +kernel
theorem dX0_firstBehind_26 : decode cX0_firstBehind 26 = .ok (.aload_n 0, 1) := by decide +kernel
theorem dX0_firstBehind_27 : decode cX0_firstBehind 27 = .ok (.getfield 18, 3) := by decide +kernel
theorem dX0_firstBehind_30 : decode cX0_firstBehind 30 = .ok (.iload_n 1, 1) := by decide +kernel
theorem dX0_firstBehind_31 : decode cX0_firstBehind 31 = .ok (.iaload, 1) := by decide +kernel
theorem dX0_firstBehind_32 : decode cX0_firstBehind 32 = .ok (.if_icmp .eq 9, 3) := by decide +kernel
theorem dX0_firstBehind_35 : decode cX0_firstBehind 35 = .ok (.iinc 2 1, 3) := by decide +kernel
theorem dX0_firstBehind_38 : decode cX0_firstBehind 38 = .ok (.goto (-36), 3) := by decide +kernel
theorem dX0_firstBehind_41 : decode cX0_firstBehind 41 = .ok (.iload_n 2, 1) := by decide +kernel
theorem dX0_firstBehind_42 : decode cX0_firstBehind 42 = .ok (.ireturn, 1) := by decide +kernel
theorem dX1_init_0 : decode cX1_init 0 = .ok (.aload_n 0, 1) := by decide +kernel
theorem dX1_init_1 : decode cX1_init 1 = .ok (.invokespecial 3, 3) := by decide +kernel
theorem dX1_init_4 : decode cX1_init 4 = .ok (.aload_n 0, 1) := by decide +kernel
theorem dX1_init_5 : decode cX1_init 5 = .ok (.bipush 6, 2) := by decide +kernel
theorem dX1_init_7 : decode cX1_init 7 = .ok (.newarray .int, 2) := by decide +kernel
theorem dX1_init_9 : decode cX1_init 9 = .ok (.putfield 9, 3) := by decide +kernel
theorem dX1_init_12 : decode cX1_init 12 = .ok (.aload_n 0, 1) := by decide +kernel
theorem dX1_init_13 : decode cX1_init 13 = .ok (.bipush 6, 2) := by decide +kernel
theorem dX1_init_15 : decode cX1_init 15 = .ok (.newarray .int, 2) := by decide +kernel
theorem dX1_init_17 : decode cX1_init 17 = .ok (.putfield 15, 3) := by decide +kernel
theorem dX1_init_20 : decode cX1_init 20 = .ok (.return_, 1) := by decide +kernel
theorem dX1_clear_0 : decode cX1_clear 0 = .ok (.aload_n 0, 1) := by decide +kernel
theorem dX1_clear_1 : decode cX1_clear 1 = .ok (.iconst 0, 1) := by decide +kernel
theorem dX1_clear_2 : decode cX1_clear 2 = .ok (.putfield 18, 3) := by decide +kernel
theorem dX1_clear_5 : decode cX1_clear 5 = .ok (.aload_n 0, 1) := by decide +kernel
theorem dX1_clear_6 : decode cX1_clear 6 = .ok (.getfield 15, 3) := by decide +kernel
theorem dX1_clear_9 : decode cX1_clear 9 = .ok (.iconst (-1), 1) := by decide +kernel
theorem dX1_clear_10 : decode cX1_clear 10 = .ok (.invokestatic 22, 3) := by decide +kernel
theorem dX1_clear_13 : decode cX1_clear 13 = .ok (.return_, 1) := by decide +kernel
theorem dX1_give_0 : decode cX1_give 0 = .ok (.iconst 0, 1) := by decide +kernel
theorem dX1_give_1 : decode cX1_give 1 = .ok (.istore 4, 2) := by decide +kernel
theorem dX1_give_3 : decode cX1_give 3 = .ok (.iload 4, 2) := by decide +kernel
theorem dX1_give_5 : decode cX1_give 5 = .ok (.iconst 5, 1) := by decide +kernel
theorem dX1_give_6 : decode cX1_give 6 = .ok (.if_icmp .ge 20, 3) := by decide +kernel
theorem dX1_give_9 : decode cX1_give 9 = .ok (.aload_n 0, 1) := by decide +kernel
theorem dX1_give_10 : decode cX1_give 10 = .ok (.getfield 15, 3) := by decide +kernel
theorem dX1_give_13 : decode cX1_give 13 = .ok (.iload 4, 2) := by decide +kernel
theorem dX1_give_15 : decode cX1_give 15 = .ok (.iaload, 1) := by decide +kernel
theorem dX1_give_16 : decode cX1_give 16 = .ok (.iload_n 2, 1) := by decide +kernel
theorem dX1_give_17 : decode cX1_give 17 = .ok (.if_icmp .lt 9, 3) := by decide +kernel
theorem dX1_give_20 : decode cX1_give 20 = .ok (.iinc 4 1, 3) := by decide +kernel
theorem dX1_give_23 : decode cX1_give 23 = .ok (.goto (-20), 3) := by decide +kernel
theorem dX1_give_26 : decode cX1_give 26 = .ok (.aload_n 0, 1) := by decide +kernel
theorem dX1_give_27 : decode cX1_give 27 = .ok (.getfield 9, 3) := by decide +kernel
theorem dX1_give_30 : decode cX1_give 30 = .ok (.iload_n 1, 1) := by decide +kernel
theorem dX1_give_31 : decode cX1_give 31 = .ok (.iload 4, 2) := by decide +kernel
theorem dX1_give_33 : decode cX1_give 33 = .ok (.iastore, 1) := by decide +kernel
theorem dX1_give_34 : decode cX1_give 34 = .ok (.aload_n 0, 1) := by decide +kernel
theorem dX1_give_35 : decode cX1_give 35 = .ok (.getfield 15, 3) := by decide +kernel
theorem dX1_give_38 : decode cX1_give 38 = .ok (.iload 4, 2) := by decide +kernel
theorem dX1_give_40 : decode cX1_give 40 = .ok (.iload_n 3, 1) := by decide +kernel
theorem dX1_give_41 : decode cX1_give 41 = .ok (.iastore, 1) := by decide +kernel
theorem dX1_give_42 : decode cX1_give 42 = .ok (.aload_n 0, 1) := by decide +kernel
theorem dX1_give_43 : decode cX1_give 43 = .ok (.aload_n 0, 1) := by decide +kernel
theorem dX1_give_44 : decode cX1_give 44 = .ok (.getfield 18, 3) := by decide +kernel
theorem dX1_give_47 : decode cX1_give 47 = .ok (.iload 4, 2) := by decide +kernel
theorem dX1_give_49 : decode cX1_give 49 = .ok (.iconst 1, 1) := by decide +kernel
theorem dX1_give_50 : decode cX1_give 50 = .ok (.iadd, 1) := by decide +kernel
theorem dX1_give_51 : decode cX1_give 51 = .ok (.invokestatic 28, 3) := by decide +kernel
theorem dX1_give_54 : decode cX1_give 54 = .ok (.putfield 18, 3) := by decide +kernel
theorem dX1_give_57 : decode cX1_give 57 = .ok (.return_, 1) := by decide +kernel
theorem dX2_init_0 : decode cX2_init 0 = .ok (.aload_n 0, 1) := by decide +kernel
theorem dX2_init_1 : decode cX2_init 1 = .ok (.invokespecial 5, 3) := by decide +kernel
theorem dX2_init_4 : decode cX2_init 4 = .ok (.aload_n 0, 1) := by decide +kernel
theorem dX2_init_5 : decode cX2_init 5 = .ok (.bipush 42, 2) := by decide +kernel
theorem dX2_init_7 : decode cX2_init 7 = .ok (.newarray .int, 2) := by decide +kernel
theorem dX2_init_9 : decode cX2_init 9 = .ok (.putfield 11, 3) := by decide +kernel
theorem dX2_init_12 : decode cX2_init 12 = .ok (.aload_n 0, 1) := by decide +kernel
theorem dX2_init_13 : decode cX2_init 13 = .ok (.bipush 48, 2) := by decide +kernel
theorem dX2_init_15 : decode cX2_init 15 = .ok (.newarray .int, 2) := by decide +kernel
theorem dX2_init_17 : decode cX2_init 17 = .ok (.putfield 15, 3) := by decide +kernel
theorem dX2_init_20 : decode cX2_init 20 = .ok (.aload_n 0, 1) := by decide +kernel
theorem dX2_init_21 : decode cX2_init 21 = .ok (.bipush 48, 2) := by decide +kernel
theorem dX2_init_23 : decode cX2_init 23 = .ok (.newarray .int, 2) := by decide +kernel
theorem dX2_init_25 : decode cX2_init 25 = .ok (.putfield 18, 3) := by decide +kernel
theorem dX2_init_28 : decode cX2_init 28 = .ok (.aload_n 0, 1) := by decide +kernel
theorem dX2_init_29 : decode cX2_init 29 = .ok (.sipush 960, 3) := by decide +kernel
theorem dX2_init_32 : decode cX2_init 32 = .ok (.newarray .int, 2) := by decide +kernel
theorem dX2_init_34 : decode cX2_init 34 = .ok (.putfield 21, 3) := by decide +kernel
theorem dX2_init_37 : decode cX2_init 37 = .ok (.aload_n 0, 1) := by decide +kernel
theorem dX2_init_38 : decode cX2_init 38 = .ok (.bipush 8, 2) := by decide +kernel
theorem dX2_init_40 : decode cX2_init 40 = .ok (.newarray .int, 2) := by decide +kernel
theorem dX2_init_42 : decode cX2_init 42 = .ok (.putfield 24, 3) := by decide +kernel
theorem dX2_init_45 : decode cX2_init 45 = .ok (.return_, 1) := by decide +kernel
theorem dX2_search_0 : decode cX2_search 0 = .ok (.aload_n 0, 1) := by decide +kernel
theorem dX2_search_1 : decode cX2_search 1 = .ok (.aload_n 1, 1) := by decide +kernel
theorem dX2_search_2 : decode cX2_search 2 = .ok (.iload_n 2, 1) := by decide +kernel
theorem dX2_search_3 : decode cX2_search 3 = .ok (.invokevirtual 27, 3) := by decide +kernel
theorem dX2_search_6 : decode cX2_search 6 = .ok (.iconst 0, 1) := by decide +kernel
theorem dX2_search_7 : decode cX2_search 7 = .ok (.istore_n 3, 1) := by decide +kernel
theorem dX2_search_8 : decode cX2_search 8 = .ok (.iconst 0, 1) := by decide +kernel
theorem dX2_search_9 : decode cX2_search 9 = .ok (.istore 4, 2) := by decide +kernel
theorem dX2_search_11 : decode cX2_search 11 = .ok (.iload 4, 2) := by decide +kernel
theorem dX2_search_13 : decode cX2_search 13 = .ok (.iload_n 2, 1) := by decide +kernel
theorem dX2_search_14 : decode cX2_search 14 = .ok (.if_icmp .ge 19, 3) := by decide +kernel
theorem dX2_search_17 : decode cX2_search 17 = .ok (.iload_n 3, 1) := by decide +kernel
theorem dX2_search_18 : decode cX2_search 18 = .ok (.aload_n 1, 1) := by decide +kernel
theorem dX2_search_19 : decode cX2_search 19 = .ok (.iload 4, 2) := by decide +kernel
theorem dX2_search_21 : decode cX2_search 21 = .ok (.aaload, 1) := by decide +kernel
theorem dX2_search_22 : decode cX2_search 22 = .ok (.getfield 31, 3) := by decide +kernel
theorem dX2_search_25 : decode cX2_search 25 = .ok (.iadd, 1) := by decide +kernel
theorem dX2_search_26 : decode cX2_search 26 = .ok (.istore_n 3, 1) := by decide +kernel
theorem dX2_search_27 : decode cX2_search 27 = .ok (.iinc 4 1, 3) := by decide +kernel
theorem dX2_search_30 : decode cX2_search 30 = .ok (.goto (-19), 3) := by decide +kernel
theorem dX2_search_33 : decode cX2_search 33 = .ok (.iconst 0, 1) := by decide +kernel
theorem dX2_search_34 : decode cX2_search 34 = .ok (.istore 4, 2) := by decide +kernel
theorem dX2_search_36 : decode cX2_search 36 = .ok (.aload_n 0, 1) := by decide +kernel
theorem dX2_search_37 : decode cX2_search 37 = .ok (.iconst 0, 1) := by decide +kernel
theorem dX2_search_38 : decode cX2_search 38 = .ok (.invokevirtual 37, 3) := by decide +kernel
theorem dX2_search_41 : decode cX2_search 41 = .ok (.istore 5, 2) := by decide +kernel
theorem dX2_search_43 : decode cX2_search 43 = .ok (.iload 5, 2) := by decide +kernel
theorem dX2_search_45 : decode cX2_search 45 = .ok (.iload_n 3, 1) := by decide +kernel
theorem dX2_search_46 : decode cX2_search 46 = .ok (.if_icmp .gt 29, 3) := by decide +kernel
theorem dX2_search_49 : decode cX2_search 49 = .ok (.iload 4, 2) := by decide +kernel
theorem dX2_search_51 : decode cX2_search 51 = .ok (.ifCond .ne 24, 3) := by decide +kernel
theorem dX2_search_54 : decode cX2_search 54 = .ok (.aload_n 0, 1) := by decide +kernel
theorem dX2_search_55 : decode cX2_search 55 = .ok (.iload 5, 2) := by decide +kernel
theorem dX2_search_57 : decode cX2_search 57 = .ok (.putfield 41, 3) := by decide +kernel
theorem dX2_search_60 : decode cX2_search 60 = .ok (.aload_n 0, 1) := by decide +kernel
theorem dX2_search_61 : decode cX2_search 61 = .ok (.iconst 0, 1) := by decide +kernel
theorem dX2_search_62 : decode cX2_search 62 = .ok (.iload 5, 2) := by decide +kernel
theorem dX2_search_64 : decode cX2_search 64 = .ok (.invokestatic 44, 3) := by decide +kernel
theorem dX2_search_67 : decode cX2_search 67 = .ok (.istore 4, 2) := by decide +kernel
theorem dX2_search_69 : decode cX2_search 69 = .ok (.iinc 5 1, 3) := by decide +kernel
theorem dX2_search_72 : decode cX2_search 72 = .ok (.goto (-29), 3) := by decide +kernel
theorem dX2_search_75 : decode cX2_search 75 = .ok (.return_, 1) := by decide +kernel
theorem dX2_reach_0 : decode cX2_reach 0 = .ok (.iload_n 1, 1) := by decide +kernel
theorem dX2_reach_1 : decode cX2_reach 1 = .ok (.aload_n 0, 1) := by decide +kernel
theorem dX2_reach_2 : decode cX2_reach 2 = .ok (.getfield 48, 3) := by decide +kernel
theorem dX2_reach_5 : decode cX2_reach 5 = .ok (.if_icmp .ne 5, 3) := by decide +kernel
theorem dX2_reach_8 : decode cX2_reach 8 = .ok (.iconst 1, 1) := by decide +kernel
theorem dX2_reach_9 : decode cX2_reach 9 = .ok (.ireturn, 1) := by decide +kernel
theorem dX2_reach_10 : decode cX2_reach 10 = .ok (.iload_n 2, 1) := by decide +kernel
theorem dX2_reach_11 : decode cX2_reach 11 = .ok (.ifCond .le 12, 3) := by decide +kernel
theorem dX2_reach_14 : decode cX2_reach 14 = .ok (.aload_n 0, 1) := by decide +kernel
theorem dX2_reach_15 : decode cX2_reach 15 = .ok (.iload_n 1, 1) := by decide +kernel
theorem dX2_reach_16 : decode cX2_reach 16 = .ok (.invokevirtual 37, 3) := by decide +kernel
theorem dX2_reach_19 : decode cX2_reach 19 = .ok (.iload_n 2, 1) := by decide +kernel
theorem dX2_reach_20 : decode cX2_reach 20 = .ok (.if_icmp .le 5, 3) := by decide +kernel
theorem dX2_reach_23 : decode cX2_reach 23 = .ok (.iconst 0, 1) := by decide +kernel
theorem dX2_reach_24 : decode cX2_reach 24 = .ok (.ireturn, 1) := by decide +kernel
theorem dX2_reach_25 : decode cX2_reach 25 = .ok (.aload_n 0, 1) := by decide +kernel
theorem dX2_reach_26 : decode cX2_reach 26 = .ok (.iload_n 1, 1) := by decide +kernel
theorem dX2_reach_27 : decode cX2_reach 27 = .ok (.invokevirtual 51, 3) := by decide +kernel
theorem dX2_reach_30 : decode cX2_reach 30 = .ok (.istore_n 3, 1) := by decide +kernel
theorem dX2_reach_31 : decode cX2_reach 31 = .ok (.iconst 0, 1) := by decide +kernel
theorem dX2_reach_32 : decode cX2_reach 32 = .ok (.istore 4, 2) := by decide +kernel
theorem dX2_reach_34 : decode cX2_reach 34 = .ok (.iload 4, 2) := by decide +kernel
theorem dX2_reach_36 : decode cX2_reach 36 = .ok (.bipush 12, 2) := by decide +kernel
theorem dX2_reach_38 : decode cX2_reach 38 = .ok (.if_icmp .ge 50, 3) := by decide +kernel
theorem dX2_reach_41 : decode cX2_reach 41 = .ok (.iload_n 3, 1) := by decide +kernel
theorem dX2_reach_42 : decode cX2_reach 42 = .ok (.iload 4, 2) := by decide +kernel
theorem dX2_reach_44 : decode cX2_reach 44 = .ok (.ishr, 1) := by decide +kernel
theorem dX2_reach_45 : decode cX2_reach 45 = .ok (.iconst 1, 1) := by decide +kernel
theorem dX2_reach_46 : decode cX2_reach 46 = .ok (.iand, 1) := by decide +kernel
theorem dX2_reach_47 : decode cX2_reach 47 = .ok (.ifCond .eq 35, 3) := by decide +kernel
theorem dX2_reach_50 : decode cX2_reach 50 = .ok (.aload_n 0, 1) := by decide +kernel
theorem dX2_reach_51 : decode cX2_reach 51 = .ok (.aload_n 0, 1) := by decide +kernel
theorem dX2_reach_52 : decode cX2_reach 52 = .ok (.iload_n 1, 1) := by decide +kernel
theorem dX2_reach_53 : decode cX2_reach 53 = .ok (.iload 4, 2) := by decide +kernel
theorem dX2_reach_55 : decode cX2_reach 55 = .ok (.invokevirtual 54, 3) := by decide +kernel
theorem dX2_reach_58 : decode cX2_reach 58 = .ok (.iload_n 2, 1) := by decide +kernel
theorem dX2_reach_59 : decode cX2_reach 59 = .ok (.iconst 1, 1) := by decide +kernel
theorem dX2_reach_60 : decode cX2_reach 60 = .ok (.isub, 1) := by decide +kernel
theorem dX2_reach_61 : decode cX2_reach 61 = .ok (.invokestatic 44, 3) := by decide +kernel
theorem dX2_reach_64 : decode cX2_reach 64 = .ok (.ifCond .eq 18, 3) := by decide +kernel
theorem dX2_reach_67 : decode cX2_reach 67 = .ok (.aload_n 0, 1) := by decide +kernel
theorem dX2_reach_68 : decode cX2_reach 68 = .ok (.getfield 11, 3) := by decide +kernel
theorem dX2_reach_71 : decode cX2_reach 71 = .ok (.aload_n 0, 1) := by decide +kernel
theorem dX2_reach_72 : decode cX2_reach 72 = .ok (.getfield 41, 3) := by decide +kernel
theorem dX2_reach_75 : decode cX2_reach 75 = .ok (.iload_n 2, 1) := by decide +kernel
theorem dX2_reach_76 : decode cX2_reach 76 = .ok (.isub, 1) := by decide +kernel
theorem dX2_reach_77 : decode cX2_reach 77 = .ok (.iload 4, 2) := by decide +kernel
theorem dX2_reach_79 : decode cX2_reach 79 = .ok (.iastore, 1) := by decide +kernel
theorem dX2_reach_80 : decode cX2_reach 80 = .ok (.iconst 1, 1) := by decide +kernel
theorem dX2_reach_81 : decode cX2_reach 81 = .ok (.ireturn, 1) := by decide +kernel
theorem dX2_reach_82 : decode cX2_reach 82 = .ok (.iinc 4 1, 3) := by decide +kernel
theorem dX2_reach_85 : decode cX2_reach 85 = .ok (.goto (-51), 3) := by decide +kernel
theorem dX2_reach_88 : decode cX2_reach 88 = .ok (.aload_n 0, 1) := by decide +kernel
theorem dX2_reach_89 : decode cX2_reach 89 = .ok (.iload_n 1, 1) := by decide +kernel
theorem dX2_reach_90 : decode cX2_reach 90 = .ok (.iload_n 2, 1) := by decide +kernel
theorem dX2_reach_91 : decode cX2_reach 91 = .ok (.iconst 1, 1) := by decide +kernel
theorem dX2_reach_92 : decode cX2_reach 92 = .ok (.iadd, 1) := by decide +kernel
theorem dX2_reach_93 : decode cX2_reach 93 = .ok (.invokevirtual 58, 3) := by decide +kernel
theorem dX2_reach_96 : decode cX2_reach 96 = .ok (.iconst 0, 1) := by decide +kernel
theorem dX2_reach_97 : decode cX2_reach 97 = .ok (.ireturn, 1) := by decide +kernel
theorem dX2_prepare_0 : decode cX2_prepare 0 = .ok (.aload_n 0, 1) := by decide +kernel
theorem dX2_prepare_1 : decode cX2_prepare 1 = .ok (.iload_n 2, 1) := by decide +kernel
theorem dX2_prepare_2 : decode cX2_prepare 2 = .ok (.putfield 62, 3) := by decide +kernel
theorem dX2_prepare_5 : decode cX2_prepare 5 = .ok (.aload_n 0, 1) := by decide +kernel
theorem dX2_prepare_6 : decode cX2_prepare 6 = .ok (.iconst 0, 1) := by decide +kernel
theorem dX2_prepare_7 : decode cX2_prepare 7 = .ok (.putfield 48, 3) := by decide +kernel
theorem dX2_prepare_10 : decode cX2_prepare 10 = .ok (.iconst 0, 1) := by decide +kernel
theorem dX2_prepare_11 : decode cX2_prepare 11 = .ok (.istore_n 3, 1) := by decide +kernel
theorem dX2_prepare_12 : decode cX2_prepare 12 = .ok (.iload_n 3, 1) := by decide +kernel
theorem dX2_prepare_13 : decode cX2_prepare 13 = .ok (.iload_n 2, 1) := by decide +kernel
theorem dX2_prepare_14 : decode cX2_prepare 14 = .ok (.if_icmp .ge 36, 3) := by decide +kernel
theorem dX2_prepare_17 : decode cX2_prepare 17 = .ok (.aload_n 0, 1) := by decide +kernel
theorem dX2_prepare_18 : decode cX2_prepare 18 = .ok (.aload_n 1, 1) := by decide +kernel
theorem dX2_prepare_19 : decode cX2_prepare 19 = .ok (.iload_n 3, 1) := by decide +kernel
theorem dX2_prepare_20 : decode cX2_prepare 20 = .ok (.aaload, 1) := by decide +kernel
theorem dX2_prepare_21 : decode cX2_prepare 21 = .ok (.iload_n 3, 1) := by decide +kernel
theorem dX2_prepare_22 : decode cX2_prepare 22 = .ok (.invokevirtual 65, 3) := by decide +kernel
theorem dX2_prepare_25 : decode cX2_prepare 25 = .ok (.aload_n 0, 1) := by decide +kernel
theorem dX2_prepare_26 : decode cX2_prepare 26 = .ok (.dup, 1) := by decide +kernel
theorem dX2_prepare_27 : decode cX2_prepare 27 = .ok (.getfield 48, 3) := by decide +kernel
theorem dX2_prepare_30 : decode cX2_prepare 30 = .ok (.aload_n 1, 1) := by decide +kernel
theorem dX2_prepare_31 : decode cX2_prepare 31 = .ok (.iload_n 3, 1) := by decide +kernel
theorem dX2_prepare_32 : decode cX2_prepare 32 = .ok (.aaload, 1) := by decide +kernel
theorem dX2_prepare_33 : decode cX2_prepare 33 = .ok (.getfield 31, 3) := by decide +kernel
theorem dX2_prepare_36 : decode cX2_prepare 36 = .ok (.iconst 3, 1) := by decide +kernel
theorem dX2_prepare_37 : decode cX2_prepare 37 = .ok (.iload_n 3, 1) := by decide +kernel
theorem dX2_prepare_38 : decode cX2_prepare 38 = .ok (.imul, 1) := by decide +kernel
theorem dX2_prepare_39 : decode cX2_prepare 39 = .ok (.ishl, 1) := by decide +kernel
theorem dX2_prepare_40 : decode cX2_prepare 40 = .ok (.ior, 1) := by decide +kernel
theorem dX2_prepare_41 : decode cX2_prepare 41 = .ok (.putfield 48, 3) := by decide +kernel
theorem dX2_prepare_44 : decode cX2_prepare 44 = .ok (.iinc 3 1, 3) := by decide +kernel
theorem dX2_prepare_47 : decode cX2_prepare 47 = .ok (.goto (-35), 3) := by decide +kernel
theorem dX2_prepare_50 : decode cX2_prepare 50 = .ok (.iconst 0, 1) := by decide +kernel
theorem dX2_prepare_51 : decode cX2_prepare 51 = .ok (.istore_n 3, 1) := by decide +kernel
theorem dX2_prepare_52 : decode cX2_prepare 52 = .ok (.iconst 1, 1) := by decide +kernel
theorem dX2_prepare_53 : decode cX2_prepare 53 = .ok (.istore 4, 2) := by decide +kernel
theorem dX2_prepare_55 : decode cX2_prepare 55 = .ok (.iload 4, 2) := by decide +kernel
theorem dX2_prepare_57 : decode cX2_prepare 57 = .ok (.iload_n 2, 1) := by decide +kernel
theorem dX2_prepare_58 : decode cX2_prepare 58 = .ok (.if_icmp .ge 41, 3) := by decide +kernel
theorem dX2_prepare_61 : decode cX2_prepare 61 = .ok (.iconst 0, 1) := by decide +kernel
theorem dX2_prepare_62 : decode cX2_prepare 62 = .ok (.istore 5, 2) := by decide +kernel
theorem dX2_prepare_64 : decode cX2_prepare 64 = .ok (.iload 5, 2) := by decide +kernel
theorem dX2_prepare_66 : decode cX2_prepare 66 = .ok (.iload 4, 2) := by decide +kernel
theorem dX2_prepare_68 : decode cX2_prepare 68 = .ok (.if_icmp .ge 25, 3) := by decide +kernel
theorem dX2_prepare_71 : decode cX2_prepare 71 = .ok (.aload_n 0, 1) := by decide +kernel
theorem dX2_prepare_72 : decode cX2_prepare 72 = .ok (.iload_n 3, 1) := by decide +kernel
theorem dX2_prepare_73 : decode cX2_prepare 73 = .ok (.aload_n 1, 1) := by decide +kernel
theorem dX2_prepare_74 : decode cX2_prepare 74 = .ok (.iload 4, 2) := by decide +kernel
theorem dX2_prepare_76 : decode cX2_prepare 76 = .ok (.aaload, 1) := by decide +kernel
theorem dX2_prepare_77 : decode cX2_prepare 77 = .ok (.aload_n 1, 1) := by decide +kernel
theorem dX2_prepare_78 : decode cX2_prepare 78 = .ok (.iload 5, 2) := by decide +kernel
theorem dX2_prepare_80 : decode cX2_prepare 80 = .ok (.aaload, 1) := by decide +kernel
theorem dX2_prepare_81 : decode cX2_prepare 81 = .ok (.invokevirtual 69, 3) := by decide +kernel
theorem dX2_prepare_84 : decode cX2_prepare 84 = .ok (.iinc 3 1, 3) := by decide +kernel
theorem dX2_prepare_87 : decode cX2_prepare 87 = .ok (.iinc 5 1, 3) := by decide +kernel
theorem dX2_prepare_90 : decode cX2_prepare 90 = .ok (.goto (-26), 3) := by decide +kernel
theorem dX2_prepare_93 : decode cX2_prepare 93 = .ok (.iinc 4 1, 3) := by decide +kernel
theorem dX2_prepare_96 : decode cX2_prepare 96 = .ok (.goto (-41), 3) := by decide +kernel
theorem dX2_prepare_99 : decode cX2_prepare 99 = .ok (.aload_n 0, 1) := by decide +kernel
theorem dX2_prepare_100 : decode cX2_prepare 100 = .ok (.iconst 1, 1) := by decide +kernel
theorem dX2_prepare_101 : decode cX2_prepare 101 = .ok (.iconst 3, 1) := by decide +kernel
theorem dX2_prepare_102 : decode cX2_prepare 102 = .ok (.iload_n 2, 1) := by decide +kernel
theorem dX2_prepare_103 : decode cX2_prepare 103 = .ok (.imul, 1) := by decide +kernel
theorem dX2_prepare_104 : decode cX2_prepare 104 = .ok (.ishl, 1) := by decide +kernel
theorem dX2_prepare_105 : decode cX2_prepare 105 = .ok (.invokevirtual 73, 3) := by decide +kernel
theorem dX2_prepare_108 : decode cX2_prepare 108 = .ok (.return_, 1) := by decide +kernel
theorem dX2_readStops_0 : decode cX2_readStops 0 = .ok (.iload_n 2, 1) := by decide +kernel
theorem dX2_readStops_1 : decode cX2_readStops 1 = .ok (.bipush 8, 2) := by decide +kernel
theorem dX2_readStops_3 : decode cX2_readStops 3 = .ok (.imul, 1) := by decide +kernel
theorem dX2_readStops_4 : decode cX2_readStops 4 = .ok (.istore_n 3, 1) := by decide +kernel
theorem dX2_readStops_5 : decode cX2_readStops 5 = .ok (.aload_n 0, 1) := by decide +kernel
theorem dX2_readStops_6 : decode cX2_readStops 6 = .ok (.getfield 15, 3) := by decide +kernel
theorem dX2_readStops_9 : decode cX2_readStops 9 = .ok (.iload_n 3, 1) := by decide +kernel
theorem dX2_readStops_10 : decode cX2_readStops 10 = .ok (.aload_n 1, 1) := by decide +kernel
theorem dX2_readStops_11 : decode cX2_readStops 11 = .ok (.getfield 31, 3) := by decide +kernel
theorem dX2_readStops_14 : decode cX2_readStops 14 = .ok (.iadd, 1) := by decide +kernel
theorem dX2_readStops_15 : decode cX2_readStops 15 = .ok (.iconst (-1), 1) := by decide +kernel
theorem dX2_readStops_16 : decode cX2_readStops 16 = .ok (.iastore, 1) := by decide +kernel
theorem dX2_readStops_17 : decode cX2_readStops 17 = .ok (.aload_n 0, 1) := by decide +kernel
theorem dX2_readStops_18 : decode cX2_readStops 18 = .ok (.getfield 18, 3) := by decide +kernel
theorem dX2_readStops_21 : decode cX2_readStops 21 = .ok (.iload_n 3, 1) := by decide +kernel
theorem dX2_readStops_22 : decode cX2_readStops 22 = .ok (.aload_n 1, 1) := by decide +kernel
theorem dX2_readStops_23 : decode cX2_readStops 23 = .ok (.getfield 31, 3) := by decide +kernel
theorem dX2_readStops_26 : decode cX2_readStops 26 = .ok (.iadd, 1) := by decide +kernel
theorem dX2_readStops_27 : decode cX2_readStops 27 = .ok (.iconst 0, 1) := by decide +kernel
theorem dX2_readStops_28 : decode cX2_readStops 28 = .ok (.iastore, 1) := by decide +kernel
theorem dX2_readStops_29 : decode cX2_readStops 29 = .ok (.aload_n 1, 1) := by decide +kernel
theorem dX2_readStops_30 : decode cX2_readStops 30 = .ok (.getfield 31, 3) := by decide +kernel
theorem dX2_readStops_33 : decode cX2_readStops 33 = .ok (.iconst 1, 1) := by decide +kernel
theorem dX2_readStops_34 : decode cX2_readStops 34 = .ok (.isub, 1) := by decide +kernel
theorem dX2_readStops_35 : decode cX2_readStops 35 = .ok (.istore 4, 2) := by decide +kernel
theorem dX2_readStops_37 : decode cX2_readStops 37 = .ok (.iload 4, 2) := by decide +kernel
theorem dX2_readStops_39 : decode cX2_readStops 39 = .ok (.ifCond .lt 55, 3) := by decide +kernel
theorem dX2_readStops_42 : decode cX2_readStops 42 = .ok (.aload_n 0, 1) := by decide +kernel
theorem dX2_readStops_43 : decode cX2_readStops 43 = .ok (.getfield 15, 3) := by decide +kernel
theorem dX2_readStops_46 : decode cX2_readStops 46 = .ok (.iload_n 3, 1) := by decide +kernel
theorem dX2_readStops_47 : decode cX2_readStops 47 = .ok (.iload 4, 2) := by decide +kernel
theorem dX2_readStops_49 : decode cX2_readStops 49 = .ok (.iadd, 1) := by decide +kernel
theorem dX2_readStops_50 : decode cX2_readStops 50 = .ok (.aload_n 1, 1) := by decide +kernel
theorem dX2_readStops_51 : decode cX2_readStops 51 = .ok (.getfield 77, 3) := by decide +kernel
theorem dX2_readStops_54 : decode cX2_readStops 54 = .ok (.iload 4, 2) := by decide +kernel
theorem dX2_readStops_56 : decode cX2_readStops 56 = .ok (.iaload, 1) := by decide +kernel
theorem dX2_readStops_57 : decode cX2_readStops 57 = .ok (.iastore, 1) := by decide +kernel
theorem dX2_readStops_58 : decode cX2_readStops 58 = .ok (.aload_n 0, 1) := by decide +kernel
theorem dX2_readStops_59 : decode cX2_readStops 59 = .ok (.getfield 18, 3) := by decide +kernel
theorem dX2_readStops_62 : decode cX2_readStops 62 = .ok (.iload_n 3, 1) := by decide +kernel
theorem dX2_readStops_63 : decode cX2_readStops 63 = .ok (.iload 4, 2) := by decide +kernel
theorem dX2_readStops_65 : decode cX2_readStops 65 = .ok (.iadd, 1) := by decide +kernel
theorem dX2_readStops_66 : decode cX2_readStops 66 = .ok (.aload_n 0, 1) := by decide +kernel
theorem dX2_readStops_67 : decode cX2_readStops 67 = .ok (.getfield 18, 3) := by decide +kernel
theorem dX2_readStops_70 : decode cX2_readStops 70 = .ok (.iload_n 3, 1) := by decide +kernel
theorem dX2_readStops_71 : decode cX2_readStops 71 = .ok (.iload 4, 2) := by decide +kernel
theorem dX2_readStops_73 : decode cX2_readStops 73 = .ok (.iadd, 1) := by decide +kernel
theorem dX2_readStops_74 : decode cX2_readStops 74 = .ok (.iconst 1, 1) := by decide +kernel
theorem dX2_readStops_75 : decode cX2_readStops 75 = .ok (.iadd, 1) := by decide +kernel
theorem dX2_readStops_76 : decode cX2_readStops 76 = .ok (.iaload, 1) := by decide +kernel
theorem dX2_readStops_77 : decode cX2_readStops 77 = .ok (.iconst 1, 1) := by decide +kernel
theorem dX2_readStops_78 : decode cX2_readStops 78 = .ok (.aload_n 1, 1) := by decide +kernel
theorem dX2_readStops_79 : decode cX2_readStops 79 = .ok (.getfield 77, 3) := by decide +kernel
theorem dX2_readStops_82 : decode cX2_readStops 82 = .ok (.iload 4, 2) := by decide +kernel
theorem dX2_readStops_84 : decode cX2_readStops 84 = .ok (.iaload, 1) := by decide +kernel
theorem dX2_readStops_85 : decode cX2_readStops 85 = .ok (.ishl, 1) := by decide +kernel
theorem dX2_readStops_86 : decode cX2_readStops 86 = .ok (.ior, 1) := by decide +kernel
theorem dX2_readStops_87 : decode cX2_readStops 87 = .ok (.iastore, 1) := by decide +kernel
theorem dX2_readStops_88 : decode cX2_readStops 88 = .ok (.iinc 4 (-1), 3) := by decide +kernel
theorem dX2_readStops_91 : decode cX2_readStops 91 = .ok (.goto (-54), 3) := by decide +kernel
theorem dX2_readStops_94 : decode cX2_readStops 94 = .ok (.return_, 1) := by decide +kernel
theorem dX2_fillPair_0 : decode cX2_fillPair 0 = .ok (.iload_n 1, 1) := by decide +kernel
theorem dX2_fillPair_1 : decode cX2_fillPair 1 = .ok (.bipush 8, 2) := by decide +kernel
theorem dX2_fillPair_3 : decode cX2_fillPair 3 = .ok (.imul, 1) := by decide +kernel
theorem dX2_fillPair_4 : decode cX2_fillPair 4 = .ok (.bipush 8, 2) := by decide +kernel
theorem dX2_fillPair_6 : decode cX2_fillPair 6 = .ok (.imul, 1) := by decide +kernel
theorem dX2_fillPair_7 : decode cX2_fillPair 7 = .ok (.istore 4, 2) := by decide +kernel
theorem dX2_fillPair_9 : decode cX2_fillPair 9 = .ok (.aload_n 2, 1) := by decide +kernel
theorem dX2_fillPair_10 : decode cX2_fillPair 10 = .ok (.getfield 31, 3) := by decide +kernel
theorem dX2_fillPair_13 : decode cX2_fillPair 13 = .ok (.istore 5, 2) := by decide +kernel
theorem dX2_fillPair_15 : decode cX2_fillPair 15 = .ok (.iload 5, 2) := by decide +kernel
theorem dX2_fillPair_17 : decode cX2_fillPair 17 = .ok (.ifCond .lt 154, 3) := by decide +kernel
theorem dX2_fillPair_20 : decode cX2_fillPair 20 = .ok (.aload_n 3, 1) := by decide +kernel
theorem dX2_fillPair_21 : decode cX2_fillPair 21 = .ok (.getfield 31, 3) := by decide +kernel
theorem dX2_fillPair_24 : decode cX2_fillPair 24 = .ok (.istore 6, 2) := by decide +kernel
theorem dX2_fillPair_26 : decode cX2_fillPair 26 = .ok (.iload 6, 2) := by decide +kernel
theorem dX2_fillPair_28 : decode cX2_fillPair 28 = .ok (.ifCond .lt 137, 3) := by decide +kernel
theorem dX2_fillPair_31 : decode cX2_fillPair 31 = .ok (.iload 4, 2) := by decide +kernel
theorem dX2_fillPair_33 : decode cX2_fillPair 33 = .ok (.iload 5, 2) := by decide +kernel
theorem dX2_fillPair_35 : decode cX2_fillPair 35 = .ok (.bipush 8, 2) := by decide +kernel
theorem dX2_fillPair_37 : decode cX2_fillPair 37 = .ok (.imul, 1) := by decide +kernel
theorem dX2_fillPair_38 : decode cX2_fillPair 38 = .ok (.iadd, 1) := by decide +kernel
theorem dX2_fillPair_39 : decode cX2_fillPair 39 = .ok (.iload 6, 2) := by decide +kernel
theorem dX2_fillPair_41 : decode cX2_fillPair 41 = .ok (.iadd, 1) := by decide +kernel
theorem dX2_fillPair_42 : decode cX2_fillPair 42 = .ok (.istore 7, 2) := by decide +kernel
theorem dX2_fillPair_44 : decode cX2_fillPair 44 = .ok (.iload 5, 2) := by decide +kernel
theorem dX2_fillPair_46 : decode cX2_fillPair 46 = .ok (.aload_n 2, 1) := by decide +kernel
theorem dX2_fillPair_47 : decode cX2_fillPair 47 = .ok (.getfield 31, 3) := by decide +kernel
theorem dX2_fillPair_50 : decode cX2_fillPair 50 = .ok (.if_icmp .eq 12, 3) := by decide +kernel
theorem dX2_fillPair_53 : decode cX2_fillPair 53 = .ok (.iload 6, 2) := by decide +kernel
theorem dX2_fillPair_55 : decode cX2_fillPair 55 = .ok (.aload_n 3, 1) := by decide +kernel
theorem dX2_fillPair_56 : decode cX2_fillPair 56 = .ok (.getfield 31, 3) := by decide +kernel
theorem dX2_fillPair_59 : decode cX2_fillPair 59 = .ok (.if_icmp .ne 28, 3) := by decide +kernel
theorem dX2_fillPair_62 : decode cX2_fillPair 62 = .ok (.aload_n 0, 1) := by decide +kernel
theorem dX2_fillPair_63 : decode cX2_fillPair 63 = .ok (.getfield 21, 3) := by decide +kernel
theorem dX2_fillPair_66 : decode cX2_fillPair 66 = .ok (.iload 7, 2) := by decide +kernel
theorem dX2_fillPair_68 : decode cX2_fillPair 68 = .ok (.aload_n 2, 1) := by decide +kernel
theorem dX2_fillPair_69 : decode cX2_fillPair 69 = .ok (.getfield 31, 3) := by decide +kernel
theorem dX2_fillPair_72 : decode cX2_fillPair 72 = .ok (.iload 5, 2) := by decide +kernel
theorem dX2_fillPair_74 : decode cX2_fillPair 74 = .ok (.isub, 1) := by decide +kernel
theorem dX2_fillPair_75 : decode cX2_fillPair 75 = .ok (.aload_n 3, 1) := by decide +kernel
theorem dX2_fillPair_76 : decode cX2_fillPair 76 = .ok (.getfield 31, 3) := by decide +kernel
theorem dX2_fillPair_79 : decode cX2_fillPair 79 = .ok (.iadd, 1) := by decide +kernel
theorem dX2_fillPair_80 : decode cX2_fillPair 80 = .ok (.iload 6, 2) := by decide +kernel
theorem dX2_fillPair_82 : decode cX2_fillPair 82 = .ok (.isub, 1) := by decide +kernel
theorem dX2_fillPair_83 : decode cX2_fillPair 83 = .ok (.iastore, 1) := by decide +kernel
theorem dX2_fillPair_84 : decode cX2_fillPair 84 = .ok (.goto 75, 3) := by decide +kernel
theorem dX2_fillPair_87 : decode cX2_fillPair 87 = .ok (.aload_n 2, 1) := by decide +kernel
theorem dX2_fillPair_88 : decode cX2_fillPair 88 = .ok (.getfield 77, 3) := by decide +kernel
theorem dX2_fillPair_91 : decode cX2_fillPair 91 = .ok (.iload 5, 2) := by decide +kernel
theorem dX2_fillPair_93 : decode cX2_fillPair 93 = .ok (.iaload, 1) := by decide +kernel
theorem dX2_fillPair_94 : decode cX2_fillPair 94 = .ok (.aload_n 3, 1) := by decide +kernel
theorem dX2_fillPair_95 : decode cX2_fillPair 95 = .ok (.getfield 77, 3) := by decide +kernel
theorem dX2_fillPair_98 : decode cX2_fillPair 98 = .ok (.iload 6, 2) := by decide +kernel
theorem dX2_fillPair_100 : decode cX2_fillPair 100 = .ok (.iaload, 1) := by decide +kernel
theorem dX2_fillPair_101 : decode cX2_fillPair 101 = .ok (.if_icmp .ne 27, 3) := by decide +kernel
theorem dX2_fillPair_104 : decode cX2_fillPair 104 = .ok (.aload_n 0, 1) := by decide +kernel
theorem dX2_fillPair_105 : decode cX2_fillPair 105 = .ok (.getfield 21, 3) := by decide +kernel
theorem dX2_fillPair_108 : decode cX2_fillPair 108 = .ok (.iload 7, 2) := by decide +kernel
theorem dX2_fillPair_110 : decode cX2_fillPair 110 = .ok (.iconst 1, 1) := by decide +kernel
theorem dX2_fillPair_111 : decode cX2_fillPair 111 = .ok (.aload_n 0, 1) := by decide +kernel
theorem dX2_fillPair_112 : decode cX2_fillPair 112 = .ok (.getfield 21, 3) := by decide +kernel
theorem dX2_fillPair_115 : decode cX2_fillPair 115 = .ok (.iload 7, 2) := by decide +kernel
theorem dX2_fillPair_117 : decode cX2_fillPair 117 = .ok (.bipush 8, 2) := by decide +kernel
theorem dX2_fillPair_119 : decode cX2_fillPair 119 = .ok (.iadd, 1) := by decide +kernel
theorem dX2_fillPair_120 : decode cX2_fillPair 120 = .ok (.iconst 1, 1) := by decide +kernel
theorem dX2_fillPair_121 : decode cX2_fillPair 121 = .ok (.iadd, 1) := by decide +kernel
theorem dX2_fillPair_122 : decode cX2_fillPair 122 = .ok (.iaload, 1) := by decide +kernel
theorem dX2_fillPair_123 : decode cX2_fillPair 123 = .ok (.iadd, 1) := by decide +kernel
theorem dX2_fillPair_124 : decode cX2_fillPair 124 = .ok (.iastore, 1) := by decide +kernel
theorem dX2_fillPair_125 : decode cX2_fillPair 125 = .ok (.goto 34, 3) := by decide +kernel
theorem dX2_fillPair_128 : decode cX2_fillPair 128 = .ok (.aload_n 0, 1) := by decide +kernel
theorem dX2_fillPair_129 : decode cX2_fillPair 129 = .ok (.getfield 21, 3) := by decide +kernel
theorem dX2_fillPair_132 : decode cX2_fillPair 132 = .ok (.iload 7, 2) := by decide +kernel
theorem dX2_fillPair_134 : decode cX2_fillPair 134 = .ok (.iconst 1, 1) := by decide +kernel
theorem dX2_fillPair_135 : decode cX2_fillPair 135 = .ok (.aload_n 0, 1) := by decide +kernel
theorem dX2_fillPair_136 : decode cX2_fillPair 136 = .ok (.getfield 21, 3) := by decide +kernel
theorem dX2_fillPair_139 : decode cX2_fillPair 139 = .ok (.iload 7, 2) := by decide +kernel
theorem dX2_fillPair_141 : decode cX2_fillPair 141 = .ok (.bipush 8, 2) := by decide +kernel
theorem dX2_fillPair_143 : decode cX2_fillPair 143 = .ok (.iadd, 1) := by decide +kernel
theorem dX2_fillPair_144 : decode cX2_fillPair 144 = .ok (.iaload, 1) := by decide +kernel
theorem dX2_fillPair_145 : decode cX2_fillPair 145 = .ok (.aload_n 0, 1) := by decide +kernel
theorem dX2_fillPair_146 : decode cX2_fillPair 146 = .ok (.getfield 21, 3) := by decide +kernel
theorem dX2_fillPair_149 : decode cX2_fillPair 149 = .ok (.iload 7, 2) := by decide +kernel
theorem dX2_fillPair_151 : decode cX2_fillPair 151 = .ok (.iconst 1, 1) := by decide +kernel
theorem dX2_fillPair_152 : decode cX2_fillPair 152 = .ok (.iadd, 1) := by decide +kernel
theorem dX2_fillPair_153 : decode cX2_fillPair 153 = .ok (.iaload, 1) := by decide +kernel
theorem dX2_fillPair_154 : decode cX2_fillPair 154 = .ok (.invokestatic 80, 3) := by decide +kernel
theorem dX2_fillPair_157 : decode cX2_fillPair 157 = .ok (.iadd, 1) := by decide +kernel
theorem dX2_fillPair_158 : decode cX2_fillPair 158 = .ok (.iastore, 1) := by decide +kernel
theorem dX2_fillPair_159 : decode cX2_fillPair 159 = .ok (.iinc 6 (-1), 3) := by decide +kernel
theorem dX2_fillPair_162 : decode cX2_fillPair 162 = .ok (.goto (-136), 3) := by decide +kernel
theorem dX2_fillPair_165 : decode cX2_fillPair 165 = .ok (.iinc 5 (-1), 3) := by decide +kernel
theorem dX2_fillPair_168 : decode cX2_fillPair 168 = .ok (.goto (-153), 3) := by decide +kernel
theorem dX2_fillPair_171 : decode cX2_fillPair 171 = .ok (.return_, 1) := by decide +kernel
theorem dX2_openKnown_0 : decode cX2_openKnown 0 = .ok (.aload_n 0, 1) := by decide +kernel
theorem dX2_openKnown_1 : decode cX2_openKnown 1 = .ok (.getfield 24, 3) := by decide +kernel
theorem dX2_openKnown_4 : decode cX2_openKnown 4 = .ok (.arraylength, 1) := by decide +kernel
theorem dX2_openKnown_5 : decode cX2_openKnown 5 = .ok (.iload_n 1, 1) := by decide +kernel
theorem dX2_openKnown_6 : decode cX2_openKnown 6 = .ok (.if_icmp .ge 10, 3) := by decide +kernel
theorem dX2_openKnown_9 : decode cX2_openKnown 9 = .ok (.aload_n 0, 1) := by decide +kernel
theorem dX2_openKnown_10 : decode cX2_openKnown 10 = .ok (.iload_n 1, 1) := by decide +kernel
theorem dX2_openKnown_11 : decode cX2_openKnown 11 = .ok (.newarray .int, 2) := by decide +kernel
theorem dX2_openKnown_13 : decode cX2_openKnown 13 = .ok (.putfield 24, 3) := by decide +kernel
theorem dX2_openKnown_16 : decode cX2_openKnown 16 = .ok (.aload_n 0, 1) := by decide +kernel
theorem dX2_openKnown_17 : decode cX2_openKnown 17 = .ok (.getfield 85, 3) := by decide +kernel
theorem dX2_openKnown_20 : decode cX2_openKnown 20 = .ok (.ldc 88, 2) := by decide +kernel
theorem dX2_openKnown_22 : decode cX2_openKnown 22 = .ok (.if_icmp .lt 16, 3) := by decide +kernel
theorem dX2_openKnown_25 : decode cX2_openKnown 25 = .ok (.aload_n 0, 1) := by decide +kernel
theorem dX2_openKnown_26 : decode cX2_openKnown 26 = .ok (.getfield 24, 3) := by decide +kernel
theorem dX2_openKnown_29 : decode cX2_openKnown 29 = .ok (.iconst 0, 1) := by decide +kernel
theorem dX2_openKnown_30 : decode cX2_openKnown 30 = .ok (.invokestatic 89, 3) := by decide +kernel
theorem dX2_openKnown_33 : decode cX2_openKnown 33 = .ok (.aload_n 0, 1) := by decide +kernel
theorem dX2_openKnown_34 : decode cX2_openKnown 34 = .ok (.iconst 0, 1) := by decide +kernel
theorem dX2_openKnown_35 : decode cX2_openKnown 35 = .ok (.putfield 85, 3) := by decide +kernel
theorem dX2_openKnown_38 : decode cX2_openKnown 38 = .ok (.aload_n 0, 1) := by decide +kernel
theorem dX2_openKnown_39 : decode cX2_openKnown 39 = .ok (.dup, 1) := by decide +kernel
theorem dX2_openKnown_40 : decode cX2_openKnown 40 = .ok (.getfield 85, 3) := by decide +kernel
theorem dX2_openKnown_43 : decode cX2_openKnown 43 = .ok (.iconst 1, 1) := by decide +kernel
theorem dX2_openKnown_44 : decode cX2_openKnown 44 = .ok (.iadd, 1) := by decide +kernel
theorem dX2_openKnown_45 : decode cX2_openKnown 45 = .ok (.putfield 85, 3) := by decide +kernel
theorem dX2_openKnown_48 : decode cX2_openKnown 48 = .ok (.return_, 1) := by decide +kernel
theorem dX2_needOf_0 : decode cX2_needOf 0 = .ok (.aload_n 0, 1) := by decide +kernel
theorem dX2_needOf_1 : decode cX2_needOf 1 = .ok (.getfield 24, 3) := by decide +kernel
theorem dX2_needOf_4 : decode cX2_needOf 4 = .ok (.iload_n 1, 1) := by decide +kernel
theorem dX2_needOf_5 : decode cX2_needOf 5 = .ok (.iaload, 1) := by decide +kernel
theorem dX2_needOf_6 : decode cX2_needOf 6 = .ok (.bipush 6, 2) := by decide +kernel
theorem dX2_needOf_8 : decode cX2_needOf 8 = .ok (.ishr, 1) := by decide +kernel
theorem dX2_needOf_9 : decode cX2_needOf 9 = .ok (.aload_n 0, 1) := by decide +kernel
theorem dX2_needOf_10 : decode cX2_needOf 10 = .ok (.getfield 85, 3) := by decide +kernel
theorem dX2_needOf_13 : decode cX2_needOf 13 = .ok (.if_icmp .eq 13, 3) := by decide +kernel
theorem dX2_needOf_16 : decode cX2_needOf 16 = .ok (.aload_n 0, 1) := by decide +kernel
theorem dX2_needOf_17 : decode cX2_needOf 17 = .ok (.iload_n 1, 1) := by decide +kernel
theorem dX2_needOf_18 : decode cX2_needOf 18 = .ok (.aload_n 0, 1) := by decide +kernel
theorem dX2_needOf_19 : decode cX2_needOf 19 = .ok (.iload_n 1, 1) := by decide +kernel
theorem dX2_needOf_20 : decode cX2_needOf 20 = .ok (.invokevirtual 95, 3) := by decide +kernel
theorem dX2_needOf_23 : decode cX2_needOf 23 = .ok (.invokevirtual 58, 3) := by decide +kernel
theorem dX2_needOf_26 : decode cX2_needOf 26 = .ok (.aload_n 0, 1) := by decide +kernel
theorem dX2_needOf_27 : decode cX2_needOf 27 = .ok (.getfield 24, 3) := by decide +kernel
theorem dX2_needOf_30 : decode cX2_needOf 30 = .ok (.iload_n 1, 1) := by decide +kernel
theorem dX2_needOf_31 : decode cX2_needOf 31 = .ok (.iaload, 1) := by decide +kernel
theorem dX2_needOf_32 : decode cX2_needOf 32 = .ok (.bipush 63, 2) := by decide +kernel
theorem dX2_needOf_34 : decode cX2_needOf 34 = .ok (.iand, 1) := by decide +kernel
theorem dX2_needOf_35 : decode cX2_needOf 35 = .ok (.ireturn, 1) := by decide +kernel
theorem dX2_keep_0 : decode cX2_keep 0 = .ok (.aload_n 0, 1) := by decide +kernel
theorem dX2_keep_1 : decode cX2_keep 1 = .ok (.getfield 24, 3) := by decide +kernel
theorem dX2_keep_4 : decode cX2_keep 4 = .ok (.iload_n 1, 1) := by decide +kernel
theorem dX2_keep_5 : decode cX2_keep 5 = .ok (.aload_n 0, 1) := by decide +kernel
theorem dX2_keep_6 : decode cX2_keep 6 = .ok (.getfield 85, 3) := by decide +kernel
theorem dX2_keep_9 : decode cX2_keep 9 = .ok (.bipush 6, 2) := by decide +kernel
theorem dX2_keep_11 : decode cX2_keep 11 = .ok (.ishl, 1) := by decide +kernel
theorem dX2_keep_12 : decode cX2_keep 12 = .ok (.iload_n 2, 1) := by decide +kernel
theorem dX2_keep_13 : decode cX2_keep 13 = .ok (.ior, 1) := by decide +kernel
theorem dX2_keep_14 : decode cX2_keep 14 = .ok (.iastore, 1) := by decide +kernel
theorem dX2_keep_15 : decode cX2_keep 15 = .ok (.return_, 1) := by decide +kernel
theorem dX2_placeOf_0 : decode cX2_placeOf 0 = .ok (.iload_n 2, 1) := by decide +kernel
theorem dX2_placeOf_1 : decode cX2_placeOf 1 = .ok (.bipush 8, 2) := by decide +kernel
theorem dX2_placeOf_3 : decode cX2_placeOf 3 = .ok (.imul, 1) := by decide +kernel
theorem dX2_placeOf_4 : decode cX2_placeOf 4 = .ok (.iload_n 1, 1) := by decide +kernel
theorem dX2_placeOf_5 : decode cX2_placeOf 5 = .ok (.iconst 3, 1) := by decide +kernel
theorem dX2_placeOf_6 : decode cX2_placeOf 6 = .ok (.iload_n 2, 1) := by decide +kernel
theorem dX2_placeOf_7 : decode cX2_placeOf 7 = .ok (.imul, 1) := by decide +kernel
theorem dX2_placeOf_8 : decode cX2_placeOf 8 = .ok (.ishr, 1) := by decide +kernel
theorem dX2_placeOf_9 : decode cX2_placeOf 9 = .ok (.bipush 7, 2) := by decide +kernel
theorem dX2_placeOf_11 : decode cX2_placeOf 11 = .ok (.iand, 1) := by decide +kernel
theorem dX2_placeOf_12 : decode cX2_placeOf 12 = .ok (.iadd, 1) := by decide +kernel
theorem dX2_placeOf_13 : decode cX2_placeOf 13 = .ok (.ireturn, 1) := by decide +kernel
theorem dX2_leastNeed_0 : decode cX2_leastNeed 0 = .ok (.iconst 0, 1) := by decide +kernel
theorem dX2_leastNeed_1 : decode cX2_leastNeed 1 = .ok (.istore_n 2, 1) := by decide +kernel
theorem dX2_leastNeed_2 : decode cX2_leastNeed 2 = .ok (.iconst 0, 1) := by decide +kernel
theorem dX2_leastNeed_3 : decode cX2_leastNeed 3 = .ok (.istore_n 3, 1) := by decide +kernel
theorem dX2_leastNeed_4 : decode cX2_leastNeed 4 = .ok (.iload_n 3, 1) := by decide +kernel
theorem dX2_leastNeed_5 : decode cX2_leastNeed 5 = .ok (.aload_n 0, 1) := by decide +kernel
theorem dX2_leastNeed_6 : decode cX2_leastNeed 6 = .ok (.getfield 62, 3) := by decide +kernel
theorem dX2_leastNeed_9 : decode cX2_leastNeed 9 = .ok (.if_icmp .ge 23, 3) := by decide +kernel
theorem dX2_leastNeed_12 : decode cX2_leastNeed 12 = .ok (.iload_n 2, 1) := by decide +kernel
theorem dX2_leastNeed_13 : decode cX2_leastNeed 13 = .ok (.aload_n 0, 1) := by decide +kernel
theorem dX2_leastNeed_14 : decode cX2_leastNeed 14 = .ok (.getfield 18, 3) := by decide +kernel
theorem dX2_leastNeed_17 : decode cX2_leastNeed 17 = .ok (.aload_n 0, 1) := by decide +kernel
theorem dX2_leastNeed_18 : decode cX2_leastNeed 18 = .ok (.iload_n 1, 1) := by decide +kernel
theorem dX2_leastNeed_19 : decode cX2_leastNeed 19 = .ok (.iload_n 3, 1) := by decide +kernel
theorem dX2_leastNeed_20 : decode cX2_leastNeed 20 = .ok (.invokevirtual 98, 3) := by decide +kernel
theorem dX2_leastNeed_23 : decode cX2_leastNeed 23 = .ok (.iaload, 1) := by decide +kernel
theorem dX2_leastNeed_24 : decode cX2_leastNeed 24 = .ok (.ior, 1) := by decide +kernel
theorem dX2_leastNeed_25 : decode cX2_leastNeed 25 = .ok (.istore_n 2, 1) := by decide +kernel
theorem dX2_leastNeed_26 : decode cX2_leastNeed 26 = .ok (.iinc 3 1, 3) := by decide +kernel
theorem dX2_leastNeed_29 : decode cX2_leastNeed 29 = .ok (.goto (-25), 3) := by decide +kernel
theorem dX2_leastNeed_32 : decode cX2_leastNeed 32 = .ok (.iload_n 2, 1) := by decide +kernel
theorem dX2_leastNeed_33 : decode cX2_leastNeed 33 = .ok (.invokestatic 101, 3) := by decide +kernel
theorem dX2_leastNeed_36 : decode cX2_leastNeed 36 = .ok (.istore_n 3, 1) := by decide +kernel
theorem dX2_leastNeed_37 : decode cX2_leastNeed 37 = .ok (.iconst 0, 1) := by decide +kernel
theorem dX2_leastNeed_38 : decode cX2_leastNeed 38 = .ok (.istore 4, 2) := by decide +kernel
theorem dX2_leastNeed_40 : decode cX2_leastNeed 40 = .ok (.iconst 1, 1) := by decide +kernel
theorem dX2_leastNeed_41 : decode cX2_leastNeed 41 = .ok (.istore 5, 2) := by decide +kernel
theorem dX2_leastNeed_43 : decode cX2_leastNeed 43 = .ok (.iload 5, 2) := by decide +kernel
theorem dX2_leastNeed_45 : decode cX2_leastNeed 45 = .ok (.aload_n 0, 1) := by decide +kernel
theorem dX2_leastNeed_46 : decode cX2_leastNeed 46 = .ok (.getfield 62, 3) := by decide +kernel
theorem dX2_leastNeed_49 : decode cX2_leastNeed 49 = .ok (.if_icmp .ge 88, 3) := by decide +kernel
theorem dX2_leastNeed_52 : decode cX2_leastNeed 52 = .ok (.aload_n 0, 1) := by decide +kernel
theorem dX2_leastNeed_53 : decode cX2_leastNeed 53 = .ok (.iload_n 1, 1) := by decide +kernel
theorem dX2_leastNeed_54 : decode cX2_leastNeed 54 = .ok (.iload 5, 2) := by decide +kernel
theorem dX2_leastNeed_56 : decode cX2_leastNeed 56 = .ok (.invokevirtual 98, 3) := by decide +kernel
theorem dX2_leastNeed_59 : decode cX2_leastNeed 59 = .ok (.istore 6, 2) := by decide +kernel
theorem dX2_leastNeed_61 : decode cX2_leastNeed 61 = .ok (.iconst 0, 1) := by decide +kernel
theorem dX2_leastNeed_62 : decode cX2_leastNeed 62 = .ok (.istore 7, 2) := by decide +kernel
theorem dX2_leastNeed_64 : decode cX2_leastNeed 64 = .ok (.iload 7, 2) := by decide +kernel
theorem dX2_leastNeed_66 : decode cX2_leastNeed 66 = .ok (.iload 5, 2) := by decide +kernel
theorem dX2_leastNeed_68 : decode cX2_leastNeed 68 = .ok (.if_icmp .ge 63, 3) := by decide +kernel
theorem dX2_leastNeed_71 : decode cX2_leastNeed 71 = .ok (.aload_n 0, 1) := by decide +kernel
theorem dX2_leastNeed_72 : decode cX2_leastNeed 72 = .ok (.iload_n 1, 1) := by decide +kernel
theorem dX2_leastNeed_73 : decode cX2_leastNeed 73 = .ok (.iload 7, 2) := by decide +kernel
theorem dX2_leastNeed_75 : decode cX2_leastNeed 75 = .ok (.invokevirtual 98, 3) := by decide +kernel
theorem dX2_leastNeed_78 : decode cX2_leastNeed 78 = .ok (.istore 8, 2) := by decide +kernel
theorem dX2_leastNeed_80 : decode cX2_leastNeed 80 = .ok (.iload_n 2, 1) := by decide +kernel
theorem dX2_leastNeed_81 : decode cX2_leastNeed 81 = .ok (.aload_n 0, 1) := by decide +kernel
theorem dX2_leastNeed_82 : decode cX2_leastNeed 82 = .ok (.getfield 18, 3) := by decide +kernel
theorem dX2_leastNeed_85 : decode cX2_leastNeed 85 = .ok (.iload 6, 2) := by decide +kernel
theorem dX2_leastNeed_87 : decode cX2_leastNeed 87 = .ok (.iaload, 1) := by decide +kernel
theorem dX2_leastNeed_88 : decode cX2_leastNeed 88 = .ok (.aload_n 0, 1) := by decide +kernel
theorem dX2_leastNeed_89 : decode cX2_leastNeed 89 = .ok (.getfield 18, 3) := by decide +kernel
theorem dX2_leastNeed_92 : decode cX2_leastNeed 92 = .ok (.iload 8, 2) := by decide +kernel
theorem dX2_leastNeed_94 : decode cX2_leastNeed 94 = .ok (.iaload, 1) := by decide +kernel
theorem dX2_leastNeed_95 : decode cX2_leastNeed 95 = .ok (.ior, 1) := by decide +kernel
theorem dX2_leastNeed_96 : decode cX2_leastNeed 96 = .ok (.iconst (-1), 1) := by decide +kernel
theorem dX2_leastNeed_97 : decode cX2_leastNeed 97 = .ok (.ixor, 1) := by decide +kernel
theorem dX2_leastNeed_98 : decode cX2_leastNeed 98 = .ok (.iand, 1) := by decide +kernel
theorem dX2_leastNeed_99 : decode cX2_leastNeed 99 = .ok (.invokestatic 101, 3) := by decide +kernel
theorem dX2_leastNeed_102 : decode cX2_leastNeed 102 = .ok (.istore 9, 2) := by decide +kernel
theorem dX2_leastNeed_104 : decode cX2_leastNeed 104 = .ok (.iload_n 3, 1) := by decide +kernel
theorem dX2_leastNeed_105 : decode cX2_leastNeed 105 = .ok (.iload 9, 2) := by decide +kernel
theorem dX2_leastNeed_107 : decode cX2_leastNeed 107 = .ok (.aload_n 0, 1) := by decide +kernel
theorem dX2_leastNeed_108 : decode cX2_leastNeed 108 = .ok (.iload 4, 2) := by decide +kernel
theorem dX2_leastNeed_110 : decode cX2_leastNeed 110 = .ok (.iload 6, 2) := by decide +kernel
theorem dX2_leastNeed_112 : decode cX2_leastNeed 112 = .ok (.iload 8, 2) := by decide +kernel
theorem dX2_leastNeed_114 : decode cX2_leastNeed 114 = .ok (.invokevirtual 106, 3) := by decide +kernel
theorem dX2_leastNeed_117 : decode cX2_leastNeed 117 = .ok (.iadd, 1) := by decide +kernel
theorem dX2_leastNeed_118 : decode cX2_leastNeed 118 = .ok (.invokestatic 110, 3) := by decide +kernel
theorem dX2_leastNeed_121 : decode cX2_leastNeed 121 = .ok (.istore_n 3, 1) := by decide +kernel
theorem dX2_leastNeed_122 : decode cX2_leastNeed 122 = .ok (.iinc 4 1, 3) := by decide +kernel
theorem dX2_leastNeed_125 : decode cX2_leastNeed 125 = .ok (.iinc 7 1, 3) := by decide +kernel
theorem dX2_leastNeed_128 : decode cX2_leastNeed 128 = .ok (.goto (-64), 3) := by decide +kernel
theorem dX2_leastNeed_131 : decode cX2_leastNeed 131 = .ok (.iinc 5 1, 3) := by decide +kernel
theorem dX2_leastNeed_134 : decode cX2_leastNeed 134 = .ok (.goto (-91), 3) := by decide +kernel
theorem dX2_leastNeed_137 : decode cX2_leastNeed 137 = .ok (.iload_n 3, 1) := by decide +kernel
theorem dX2_leastNeed_138 : decode cX2_leastNeed 138 = .ok (.ireturn, 1) := by decide +kernel
theorem dX2_pairNeedAt_0 : decode cX2_pairNeedAt 0 = .ok (.aload_n 0, 1) := by decide +kernel
theorem dX2_pairNeedAt_1 : decode cX2_pairNeedAt 1 = .ok (.getfield 21, 3) := by decide +kernel
theorem dX2_pairNeedAt_4 : decode cX2_pairNeedAt 4 = .ok (.iload_n 1, 1) := by decide +kernel
theorem dX2_pairNeedAt_5 : decode cX2_pairNeedAt 5 = .ok (.bipush 8, 2) := by decide +kernel
theorem dX2_pairNeedAt_7 : decode cX2_pairNeedAt 7 = .ok (.imul, 1) := by decide +kernel
theorem dX2_pairNeedAt_8 : decode cX2_pairNeedAt 8 = .ok (.iload_n 2, 1) := by decide +kernel
theorem dX2_pairNeedAt_9 : decode cX2_pairNeedAt 9 = .ok (.bipush 8, 2) := by decide +kernel
theorem dX2_pairNeedAt_11 : decode cX2_pairNeedAt 11 = .ok (.irem, 1) := by decide +kernel
theorem dX2_pairNeedAt_12 : decode cX2_pairNeedAt 12 = .ok (.iadd, 1) := by decide +kernel
theorem dX2_pairNeedAt_13 : decode cX2_pairNeedAt 13 = .ok (.bipush 8, 2) := by decide +kernel
theorem dX2_pairNeedAt_15 : decode cX2_pairNeedAt 15 = .ok (.imul, 1) := by decide +kernel
theorem dX2_pairNeedAt_16 : decode cX2_pairNeedAt 16 = .ok (.iload_n 3, 1) := by decide +kernel
theorem dX2_pairNeedAt_17 : decode cX2_pairNeedAt 17 = .ok (.bipush 8, 2) := by decide +kernel
theorem dX2_pairNeedAt_19 : decode cX2_pairNeedAt 19 = .ok (.irem, 1) := by decide +kernel
theorem dX2_pairNeedAt_20 : decode cX2_pairNeedAt 20 = .ok (.iadd, 1) := by decide +kernel
theorem dX2_pairNeedAt_21 : decode cX2_pairNeedAt 21 = .ok (.iaload, 1) := by decide +kernel
theorem dX2_pairNeedAt_22 : decode cX2_pairNeedAt 22 = .ok (.ireturn, 1) := by decide +kernel
theorem dX2_nextStations_0 : decode cX2_nextStations 0 = .ok (.iconst 0, 1) := by decide +kernel
theorem dX2_nextStations_1 : decode cX2_nextStations 1 = .ok (.istore_n 2, 1) := by decide +kernel
theorem dX2_nextStations_2 : decode cX2_nextStations 2 = .ok (.iconst 0, 1) := by decide +kernel
theorem dX2_nextStations_3 : decode cX2_nextStations 3 = .ok (.istore_n 3, 1) := by decide +kernel
theorem dX2_nextStations_4 : decode cX2_nextStations 4 = .ok (.iload_n 3, 1) := by decide +kernel
theorem dX2_nextStations_5 : decode cX2_nextStations 5 = .ok (.aload_n 0, 1) := by decide +kernel
theorem dX2_nextStations_6 : decode cX2_nextStations 6 = .ok (.getfield 62, 3) := by decide +kernel
theorem dX2_nextStations_9 : decode cX2_nextStations 9 = .ok (.if_icmp .ge 35, 3) := by decide +kernel
theorem dX2_nextStations_12 : decode cX2_nextStations 12 = .ok (.aload_n 0, 1) := by decide +kernel
theorem dX2_nextStations_13 : decode cX2_nextStations 13 = .ok (.getfield 15, 3) := by decide +kernel
theorem dX2_nextStations_16 : decode cX2_nextStations 16 = .ok (.aload_n 0, 1) := by decide +kernel
theorem dX2_nextStations_17 : decode cX2_nextStations 17 = .ok (.iload_n 1, 1) := by decide +kernel
theorem dX2_nextStations_18 : decode cX2_nextStations 18 = .ok (.iload_n 3, 1) := by decide +kernel
theorem dX2_nextStations_19 : decode cX2_nextStations 19 = .ok (.invokevirtual 98, 3) := by decide +kernel
theorem dX2_nextStations_22 : decode cX2_nextStations 22 = .ok (.iaload, 1) := by decide +kernel
theorem dX2_nextStations_23 : decode cX2_nextStations 23 = .ok (.istore 4, 2) := by decide +kernel
theorem dX2_nextStations_25 : decode cX2_nextStations 25 = .ok (.iload 4, 2) := by decide +kernel
theorem dX2_nextStations_27 : decode cX2_nextStations 27 = .ok (.iconst (-1), 1) := by decide +kernel
theorem dX2_nextStations_28 : decode cX2_nextStations 28 = .ok (.if_icmp .eq 10, 3) := by decide +kernel
theorem dX2_nextStations_31 : decode cX2_nextStations 31 = .ok (.iload_n 2, 1) := by decide +kernel
theorem dX2_nextStations_32 : decode cX2_nextStations 32 = .ok (.iconst 1, 1) := by decide +kernel
theorem dX2_nextStations_33 : decode cX2_nextStations 33 = .ok (.iload 4, 2) := by decide +kernel
theorem dX2_nextStations_35 : decode cX2_nextStations 35 = .ok (.ishl, 1) := by decide +kernel
theorem dX2_nextStations_36 : decode cX2_nextStations 36 = .ok (.ior, 1) := by decide +kernel
theorem dX2_nextStations_37 : decode cX2_nextStations 37 = .ok (.istore_n 2, 1) := by decide +kernel
theorem dX2_nextStations_38 : decode cX2_nextStations 38 = .ok (.iinc 3 1, 3) := by decide +kernel
theorem dX2_nextStations_41 : decode cX2_nextStations 41 = .ok (.goto (-37), 3) := by decide +kernel
theorem dX2_nextStations_44 : decode cX2_nextStations 44 = .ok (.iload_n 2, 1) := by decide +kernel
theorem dX2_nextStations_45 : decode cX2_nextStations 45 = .ok (.ireturn, 1) := by decide +kernel
theorem dX2_passed_0 : decode cX2_passed 0 = .ok (.iload_n 1, 1) := by decide +kernel
theorem dX2_passed_1 : decode cX2_passed 1 = .ok (.istore_n 3, 1) := by decide +kernel
theorem dX2_passed_2 : decode cX2_passed 2 = .ok (.iconst 0, 1) := by decide +kernel
theorem dX2_passed_3 : decode cX2_passed 3 = .ok (.istore 4, 2) := by decide +kernel
theorem dX2_passed_5 : decode cX2_passed 5 = .ok (.iload 4, 2) := by decide +kernel
theorem dX2_passed_7 : decode cX2_passed 7 = .ok (.aload_n 0, 1) := by decide +kernel
theorem dX2_passed_8 : decode cX2_passed 8 = .ok (.getfield 62, 3) := by decide +kernel
theorem dX2_passed_11 : decode cX2_passed 11 = .ok (.if_icmp .ge 34, 3) := by decide +kernel
theorem dX2_passed_14 : decode cX2_passed 14 = .ok (.aload_n 0, 1) := by decide +kernel
theorem dX2_passed_15 : decode cX2_passed 15 = .ok (.getfield 15, 3) := by decide +kernel
theorem dX2_passed_18 : decode cX2_passed 18 = .ok (.aload_n 0, 1) := by decide +kernel
theorem dX2_passed_19 : decode cX2_passed 19 = .ok (.iload_n 1, 1) := by decide +kernel
theorem dX2_passed_20 : decode cX2_passed 20 = .ok (.iload 4, 2) := by decide +kernel
theorem dX2_passed_22 : decode cX2_passed 22 = .ok (.invokevirtual 98, 3) := by decide +kernel
theorem dX2_passed_25 : decode cX2_passed 25 = .ok (.iaload, 1) := by decide +kernel
theorem dX2_passed_26 : decode cX2_passed 26 = .ok (.iload_n 2, 1) := by decide +kernel
theorem dX2_passed_27 : decode cX2_passed 27 = .ok (.if_icmp .ne 12, 3) := by decide +kernel
theorem dX2_passed_30 : decode cX2_passed 30 = .ok (.iload_n 3, 1) := by decide +kernel
theorem dX2_passed_31 : decode cX2_passed 31 = .ok (.iconst 1, 1) := by decide +kernel
theorem dX2_passed_32 : decode cX2_passed 32 = .ok (.iconst 3, 1) := by decide +kernel
theorem dX2_passed_33 : decode cX2_passed 33 = .ok (.iload 4, 2) := by decide +kernel
theorem dX2_passed_35 : decode cX2_passed 35 = .ok (.imul, 1) := by decide +kernel
theorem dX2_passed_36 : decode cX2_passed 36 = .ok (.ishl, 1) := by decide +kernel
theorem dX2_passed_37 : decode cX2_passed 37 = .ok (.iadd, 1) := by decide +kernel
theorem dX2_passed_38 : decode cX2_passed 38 = .ok (.istore_n 3, 1) := by decide +kernel
theorem dX2_passed_39 : decode cX2_passed 39 = .ok (.iinc 4 1, 3) := by decide +kernel
theorem dX2_passed_42 : decode cX2_passed 42 = .ok (.goto (-37), 3) := by decide +kernel
theorem dX2_passed_45 : decode cX2_passed 45 = .ok (.iload_n 3, 1) := by decide +kernel
theorem dX2_passed_46 : decode cX2_passed 46 = .ok (.ireturn, 1) := by decide +kernel
theorem dX3_init_0 : decode cX3_init 0 = .ok (.aload_n 0, 1) := by decide +kernel
theorem dX3_init_1 : decode cX3_init 1 = .ok (.invokespecial 3, 3) := by decide +kernel
theorem dX3_init_4 : decode cX3_init 4 = .ok (.aload_n 0, 1) := by decide +kernel
theorem dX3_init_5 : decode cX3_init 5 = .ok (.bipush 6, 2) := by decide +kernel
theorem dX3_init_7 : decode cX3_init 7 = .ok (.newarray .int, 2) := by decide +kernel
theorem dX3_init_9 : decode cX3_init 9 = .ok (.putfield 11, 3) := by decide +kernel
theorem dX3_init_12 : decode cX3_init 12 = .ok (.return_, 1) := by decide +kernel
theorem dX3_tell_0 : decode cX3_tell 0 = .ok (.aload_n 0, 1) := by decide +kernel
theorem dX3_tell_1 : decode cX3_tell 1 = .ok (.getfield 11, 3) := by decide +kernel
theorem dX3_tell_4 : decode cX3_tell 4 = .ok (.iload_n 1, 1) := by decide +kernel
theorem dX3_tell_5 : decode cX3_tell 5 = .ok (.iload_n 2, 1) := by decide +kernel
theorem dX3_tell_6 : decode cX3_tell 6 = .ok (.iastore, 1) := by decide +kernel
theorem dX3_tell_7 : decode cX3_tell 7 = .ok (.return_, 1) := by decide +kernel
theorem dX3_fewestFor_0 : decode cX3_fewestFor 0 = .ok (.iload_n 1, 1) := by decide +kernel
theorem dX3_fewestFor_1 : decode cX3_fewestFor 1 = .ok (.istore_n 2, 1) := by decide +kernel
theorem dX3_fewestFor_2 : decode cX3_fewestFor 2 = .ok (.iconst 1, 1) := by decide +kernel
theorem dX3_fewestFor_3 : decode cX3_fewestFor 3 = .ok (.istore_n 3, 1) := by decide +kernel
theorem dX3_fewestFor_4 : decode cX3_fewestFor 4 = .ok (.iload_n 3, 1) := by decide +kernel
theorem dX3_fewestFor_5 : decode cX3_fewestFor 5 = .ok (.bipush 64, 2) := by decide +kernel
theorem dX3_fewestFor_7 : decode cX3_fewestFor 7 = .ok (.if_icmp .ge 41, 3) := by decide +kernel
theorem dX3_fewestFor_10 : decode cX3_fewestFor 10 = .ok (.aload_n 0, 1) := by decide +kernel
theorem dX3_fewestFor_11 : decode cX3_fewestFor 11 = .ok (.iload_n 3, 1) := by decide +kernel
theorem dX3_fewestFor_12 : decode cX3_fewestFor 12 = .ok (.invokevirtual 15, 3) := by decide +kernel
theorem dX3_fewestFor_15 : decode cX3_fewestFor 15 = .ok (.istore 4, 2) := by decide +kernel
theorem dX3_fewestFor_17 : decode cX3_fewestFor 17 = .ok (.iload 4, 2) := by decide +kernel
theorem dX3_fewestFor_19 : decode cX3_fewestFor 19 = .ok (.iload_n 1, 1) := by decide +kernel
theorem dX3_fewestFor_20 : decode cX3_fewestFor 20 = .ok (.iconst (-1), 1) := by decide +kernel
theorem dX3_fewestFor_21 : decode cX3_fewestFor 21 = .ok (.ixor, 1) := by decide +kernel
theorem dX3_fewestFor_22 : decode cX3_fewestFor 22 = .ok (.iand, 1) := by decide +kernel
theorem dX3_fewestFor_23 : decode cX3_fewestFor 23 = .ok (.ifCond .ne 19, 3) := by decide +kernel
theorem dX3_fewestFor_26 : decode cX3_fewestFor 26 = .ok (.iload_n 2, 1) := by decide +kernel
theorem dX3_fewestFor_27 : decode cX3_fewestFor 27 = .ok (.iload_n 3, 1) := by decide +kernel
theorem dX3_fewestFor_28 : decode cX3_fewestFor 28 = .ok (.bipush 7, 2) := by decide +kernel
theorem dX3_fewestFor_30 : decode cX3_fewestFor 30 = .ok (.ishl, 1) := by decide +kernel
theorem dX3_fewestFor_31 : decode cX3_fewestFor 31 = .ok (.iload_n 1, 1) := by decide +kernel
theorem dX3_fewestFor_32 : decode cX3_fewestFor 32 = .ok (.iload 4, 2) := by decide +kernel
theorem dX3_fewestFor_34 : decode cX3_fewestFor 34 = .ok (.iconst (-1), 1) := by decide +kernel
theorem dX3_fewestFor_35 : decode cX3_fewestFor 35 = .ok (.ixor, 1) := by decide +kernel
theorem dX3_fewestFor_36 : decode cX3_fewestFor 36 = .ok (.iand, 1) := by decide +kernel
theorem dX3_fewestFor_37 : decode cX3_fewestFor 37 = .ok (.ior, 1) := by decide +kernel
theorem dX3_fewestFor_38 : decode cX3_fewestFor 38 = .ok (.invokestatic 19, 3) := by decide +kernel
theorem dX3_fewestFor_41 : decode cX3_fewestFor 41 = .ok (.istore_n 2, 1) := by decide +kernel
theorem dX3_fewestFor_42 : decode cX3_fewestFor 42 = .ok (.iinc 3 1, 3) := by decide +kernel
theorem dX3_fewestFor_45 : decode cX3_fewestFor 45 = .ok (.goto (-41), 3) := by decide +kernel
theorem dX3_fewestFor_48 : decode cX3_fewestFor 48 = .ok (.iload_n 2, 1) := by decide +kernel
theorem dX3_fewestFor_49 : decode cX3_fewestFor 49 = .ok (.ireturn, 1) := by decide +kernel
theorem dX3_unionOf_0 : decode cX3_unionOf 0 = .ok (.iconst 0, 1) := by decide +kernel
theorem dX3_unionOf_1 : decode cX3_unionOf 1 = .ok (.istore_n 2, 1) := by decide +kernel
theorem dX3_unionOf_2 : decode cX3_unionOf 2 = .ok (.iconst 0, 1) := by decide +kernel
theorem dX3_unionOf_3 : decode cX3_unionOf 3 = .ok (.istore_n 3, 1) := by decide +kernel
theorem dX3_unionOf_4 : decode cX3_unionOf 4 = .ok (.iload_n 3, 1) := by decide +kernel
theorem dX3_unionOf_5 : decode cX3_unionOf 5 = .ok (.bipush 6, 2) := by decide +kernel
theorem dX3_unionOf_7 : decode cX3_unionOf 7 = .ok (.if_icmp .ge 26, 3) := by decide +kernel
theorem dX3_unionOf_10 : decode cX3_unionOf 10 = .ok (.iload_n 1, 1) := by decide +kernel
theorem dX3_unionOf_11 : decode cX3_unionOf 11 = .ok (.iload_n 3, 1) := by decide +kernel
theorem dX3_unionOf_12 : decode cX3_unionOf 12 = .ok (.ishr, 1) := by decide +kernel
theorem dX3_unionOf_13 : decode cX3_unionOf 13 = .ok (.iconst 1, 1) := by decide +kernel
theorem dX3_unionOf_14 : decode cX3_unionOf 14 = .ok (.iand, 1) := by decide +kernel
theorem dX3_unionOf_15 : decode cX3_unionOf 15 = .ok (.ifCond .eq 12, 3) := by decide +kernel
theorem dX3_unionOf_18 : decode cX3_unionOf 18 = .ok (.iload_n 2, 1) := by decide +kernel
theorem dX3_unionOf_19 : decode cX3_unionOf 19 = .ok (.aload_n 0, 1) := by decide +kernel
theorem dX3_unionOf_20 : decode cX3_unionOf 20 = .ok (.getfield 11, 3) := by decide +kernel
theorem dX3_unionOf_23 : decode cX3_unionOf 23 = .ok (.iload_n 3, 1) := by decide +kernel
theorem dX3_unionOf_24 : decode cX3_unionOf 24 = .ok (.iaload, 1) := by decide +kernel
theorem dX3_unionOf_25 : decode cX3_unionOf 25 = .ok (.ior, 1) := by decide +kernel
theorem dX3_unionOf_26 : decode cX3_unionOf 26 = .ok (.istore_n 2, 1) := by decide +kernel
theorem dX3_unionOf_27 : decode cX3_unionOf 27 = .ok (.iinc 3 1, 3) := by decide +kernel
theorem dX3_unionOf_30 : decode cX3_unionOf 30 = .ok (.goto (-26), 3) := by decide +kernel
theorem dX3_unionOf_33 : decode cX3_unionOf 33 = .ok (.iload_n 2, 1) := by decide +kernel
theorem dX3_unionOf_34 : decode cX3_unionOf 34 = .ok (.ireturn, 1) := by decide +kernel
theorem dX3_lesser_0 : decode cX3_lesser 0 = .ok (.iload_n 0, 1) := by decide +kernel
theorem dX3_lesser_1 : decode cX3_lesser 1 = .ok (.invokestatic 23, 3) := by decide +kernel
theorem dX3_lesser_4 : decode cX3_lesser 4 = .ok (.iload_n 1, 1) := by decide +kernel
theorem dX3_lesser_5 : decode cX3_lesser 5 = .ok (.invokestatic 23, 3) := by decide +kernel
theorem dX3_lesser_8 : decode cX3_lesser 8 = .ok (.isub, 1) := by decide +kernel
theorem dX3_lesser_9 : decode cX3_lesser 9 = .ok (.istore_n 2, 1) := by decide +kernel
theorem dX3_lesser_10 : decode cX3_lesser 10 = .ok (.iload_n 2, 1) := by decide +kernel
theorem dX3_lesser_11 : decode cX3_lesser 11 = .ok (.ifCond .eq 13, 3) := by decide +kernel
theorem dX3_lesser_14 : decode cX3_lesser 14 = .ok (.iload_n 2, 1) := by decide +kernel
theorem dX3_lesser_15 : decode cX3_lesser 15 = .ok (.ifCond .ge 7, 3) := by decide +kernel
theorem dX3_lesser_18 : decode cX3_lesser 18 = .ok (.iload_n 0, 1) := by decide +kernel
theorem dX3_lesser_19 : decode cX3_lesser 19 = .ok (.goto 4, 3) := by decide +kernel
theorem dX3_lesser_22 : decode cX3_lesser 22 = .ok (.iload_n 1, 1) := by decide +kernel
theorem dX3_lesser_23 : decode cX3_lesser 23 = .ok (.ireturn, 1) := by decide +kernel
theorem dX3_lesser_24 : decode cX3_lesser 24 = .ok (.iload_n 0, 1) := by decide +kernel
theorem dX3_lesser_25 : decode cX3_lesser 25 = .ok (.iload_n 1, 1) := by decide +kernel
theorem dX3_lesser_26 : decode cX3_lesser 26 = .ok (.invokestatic 28, 3) := by decide +kernel
theorem dX3_lesser_29 : decode cX3_lesser 29 = .ok (.ireturn, 1) := by decide +kernel
theorem dX4_init_0 : decode cX4_init 0 = .ok (.aload_n 0, 1) := by decide +kernel
theorem dX4_init_1 : decode cX4_init 1 = .ok (.invokespecial 3, 3) := by decide +kernel
theorem dX4_init_4 : decode cX4_init 4 = .ok (.aload_n 0, 1) := by decide +kernel
theorem dX4_init_5 : decode cX4_init 5 = .ok (.bipush 6, 2) := by decide +kernel
theorem dX4_init_7 : decode cX4_init 7 = .ok (.anewarray 9, 3) := by decide +kernel
theorem dX4_init_10 : decode cX4_init 10 = .ok (.putfield 11, 3) := by decide +kernel
theorem dX4_init_13 : decode cX4_init 13 = .ok (.aload_n 0, 1) := by decide +kernel
theorem dX4_init_14 : decode cX4_init 14 = .ok (.bipush 6, 2) := by decide +kernel
theorem dX4_init_16 : decode cX4_init 16 = .ok (.newarray .int, 2) := by decide +kernel
theorem dX4_init_18 : decode cX4_init 18 = .ok (.putfield 17, 3) := by decide +kernel
theorem dX4_init_21 : decode cX4_init 21 = .ok (.aload_n 0, 1) := by decide +kernel
theorem dX4_init_22 : decode cX4_init 22 = .ok (.bipush 42, 2) := by decide +kernel
theorem dX4_init_24 : decode cX4_init 24 = .ok (.newarray .int, 2) := by decide +kernel
theorem dX4_init_26 : decode cX4_init 26 = .ok (.putfield 21, 3) := by decide +kernel
theorem dX4_init_29 : decode cX4_init 29 = .ok (.aload_n 0, 1) := by decide +kernel
theorem dX4_init_30 : decode cX4_init 30 = .ok (.new 24, 3) := by decide +kernel
theorem dX4_init_33 : decode cX4_init 33 = .ok (.dup, 1) := by decide +kernel
theorem dX4_init_34 : decode cX4_init 34 = .ok (.invokespecial 26, 3) := by decide +kernel
theorem dX4_init_37 : decode cX4_init 37 = .ok (.putfield 27, 3) := by decide +kernel
theorem dX4_init_40 : decode cX4_init 40 = .ok (.aload_n 0, 1) := by decide +kernel
theorem dX4_init_41 : decode cX4_init 41 = .ok (.new 31, 3) := by decide +kernel
theorem dX4_init_44 : decode cX4_init 44 = .ok (.dup, 1) := by decide +kernel
theorem dX4_init_45 : decode cX4_init 45 = .ok (.invokespecial 33, 3) := by decide +kernel
theorem dX4_init_48 : decode cX4_init 48 = .ok (.putfield 34, 3) := by decide +kernel
theorem dX4_init_51 : decode cX4_init 51 = .ok (.aload_n 0, 1) := by decide +kernel
theorem dX4_init_52 : decode cX4_init 52 = .ok (.new 38, 3) := by decide +kernel
theorem dX4_init_55 : decode cX4_init 55 = .ok (.dup, 1) := by decide +kernel
theorem dX4_init_56 : decode cX4_init 56 = .ok (.invokespecial 40, 3) := by decide +kernel
theorem dX4_init_59 : decode cX4_init 59 = .ok (.putfield 41, 3) := by decide +kernel
theorem dX4_init_62 : decode cX4_init 62 = .ok (.iconst 0, 1) := by decide +kernel
theorem dX4_init_63 : decode cX4_init 63 = .ok (.istore_n 1, 1) := by decide +kernel
theorem dX4_init_64 : decode cX4_init 64 = .ok (.iload_n 1, 1) := by decide +kernel
theorem dX4_init_65 : decode cX4_init 65 = .ok (.bipush 6, 2) := by decide +kernel
theorem dX4_init_67 : decode cX4_init 67 = .ok (.if_icmp .ge 22, 3) := by decide +kernel
theorem dX4_init_70 : decode cX4_init 70 = .ok (.aload_n 0, 1) := by decide +kernel
theorem dX4_init_71 : decode cX4_init 71 = .ok (.getfield 11, 3) := by decide +kernel
theorem dX4_init_74 : decode cX4_init 74 = .ok (.iload_n 1, 1) := by decide +kernel
theorem dX4_init_75 : decode cX4_init 75 = .ok (.new 9, 3) := by decide +kernel
theorem dX4_init_78 : decode cX4_init 78 = .ok (.dup, 1) := by decide +kernel
theorem dX4_init_79 : decode cX4_init 79 = .ok (.invokespecial 45, 3) := by decide +kernel
theorem dX4_init_82 : decode cX4_init 82 = .ok (.aastore, 1) := by decide +kernel
theorem dX4_init_83 : decode cX4_init 83 = .ok (.iinc 1 1, 3) := by decide +kernel
theorem dX4_init_86 : decode cX4_init 86 = .ok (.goto (-22), 3) := by decide +kernel
theorem dX4_init_89 : decode cX4_init 89 = .ok (.return_, 1) := by decide +kernel
theorem dX4_make_0 : decode cX4_make 0 = .ok (.aload_n 0, 1) := by decide +kernel
theorem dX4_make_1 : decode cX4_make 1 = .ok (.aload_n 1, 1) := by decide +kernel
theorem dX4_make_2 : decode cX4_make 2 = .ok (.iload_n 2, 1) := by decide +kernel
theorem dX4_make_3 : decode cX4_make 3 = .ok (.invokevirtual 46, 3) := by decide +kernel
theorem dX4_make_6 : decode cX4_make 6 = .ok (.aload_n 0, 1) := by decide +kernel
theorem dX4_make_7 : decode cX4_make 7 = .ok (.getfield 27, 3) := by decide +kernel
