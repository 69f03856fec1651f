def fX4_init (N : Nat) (R : qR) (I : qI) (a0 : Nat) : Option (qI × qR) :=
  qlet (qzI I R.2.2.1) fun I1 =>
  qlet (qzR R 11 6) fun R2 =>
  qlet (qpr R2 a0 0 (some R.2.2.1)) fun R4 =>
  qlet (qzI I1 R4.2.2.1) fun I5 =>
  qlet (qzR R4 9 6) fun R6 =>
  qlet (qpr R6 a0 1 (some R4.2.2.1)) fun R8 =>
  qlet (qzI I5 R8.2.2.1) fun I9 =>
  qlet (qzR R8 9 42) fun R10 =>
  qlet (qpr R10 a0 2 (some R8.2.2.1)) fun R12 =>
  qlet (qzI I9 R12.2.2.1) fun I13 =>
  qlet (qzR R12 2 9) fun R14 =>
  (fX2_init R14 I13 R12.2.2.1).bind fun y16 =>
  qlet (qpr y16.2 a0 3 (some R12.2.2.1)) fun R17 =>
  qlet (qzI y16.1 R17.2.2.1) fun I18 =>
  qlet (qzR R17 0 6) fun R19 =>
  (fX0_init R19 I18 R17.2.2.1).bind fun y21 =>
  qlet (qpr y21.2 a0 4 (some R17.2.2.1)) fun R22 =>
  qlet (qzI y21.1 R22.2.2.1) fun I23 =>
  qlet (qzR R22 1 3) fun R24 =>
  (fX1_init R24 I23 R22.2.2.1).bind fun y26 =>
  qlet (qpr y26.2 a0 5 (some R22.2.2.1)) fun R27 =>
  (R27.1 a0 0).bind fun r28 =>
  qlet (qzI y26.1 R27.2.2.1) fun I29 =>
  qlet (qzR R27 5 6) fun R30 =>
  (fX5_init N R30 I29 R27.2.2.1).bind fun y32 =>
  (qwa y32.2 r28 (0 : Int32) R27.2.2.1).bind fun R33 =>
  (R33.1 a0 0).bind fun r34 =>
  qlet (qzI y32.1 R33.2.2.1) fun I35 =>
  qlet (qzR R33 5 6) fun R36 =>
  (fX5_init N R36 I35 R33.2.2.1).bind fun y38 =>
  (qwa y38.2 r34 (1 : Int32) R33.2.2.1).bind fun R39 =>
  (R39.1 a0 0).bind fun r40 =>
  qlet (qzI y38.1 R39.2.2.1) fun I41 =>
  qlet (qzR R39 5 6) fun R42 =>
  (fX5_init N R42 I41 R39.2.2.1).bind fun y44 =>
  (qwa y44.2 r40 (2 : Int32) R39.2.2.1).bind fun R45 =>
  (R45.1 a0 0).bind fun r46 =>
  qlet (qzI y44.1 R45.2.2.1) fun I47 =>
  qlet (qzR R45 5 6) fun R48 =>
  (fX5_init N R48 I47 R45.2.2.1).bind fun y50 =>
  (qwa y50.2 r46 (3 : Int32) R45.2.2.1).bind fun R51 =>
  (R51.1 a0 0).bind fun r52 =>
  qlet (qzI y50.1 R51.2.2.1) fun I53 =>
  qlet (qzR R51 5 6) fun R54 =>
  (fX5_init N R54 I53 R51.2.2.1).bind fun y56 =>
  (qwa y56.2 r52 (4 : Int32) R51.2.2.1).bind fun R57 =>
  (R57.1 a0 0).bind fun r58 =>
  qlet (qzI y56.1 R57.2.2.1) fun I59 =>
  qlet (qzR R57 5 6) fun R60 =>
  (fX5_init N R60 I59 R57.2.2.1).bind fun y62 =>
  (qwa y62.2 r58 (5 : Int32) R57.2.2.1).bind fun R63 =>
  some (y62.1, R63)
set_option maxHeartbeats 4000000 in
set_option maxRecDepth 100000 in
theorem eX4_init {N : Nat} {R : qR} {I : qI} {a0 : Nat} {rI : qI} {rR : qR} (hW : qWT R) (ha0 : qok R a0 4) (hF : fX4_init N R I a0 = some (rI, rR)) : qWT rR ∧ qExt R rR := by
  unfold fX4_init at hF
  obtain ⟨I1, eI1, hF⟩ := qletE hF
  obtain ⟨R2, eR2, hF⟩ := qletE hF
  have hz3 : qok R2 R.2.2.1 11 := qok.z eR2
  have E_1 : qExt R R2 := qExt.z eR2
  have hW_1 : qWT R2 := hW.z eR2
  have ha0_1 : qok R2 a0 4 := ha0.ext E_1
  obtain ⟨R4, eR4, hF⟩ := qletE hF
  have E_2 : qExt R2 R4 := qExt.pr eR4
  have hW_2 : qWT R4 := hW_1.pr ha0_1 hz3 eR4
  have ha0_2 : qok R4 a0 4 := ha0_1.ext E_2
  obtain ⟨I5, eI5, hF⟩ := qletE hF
  obtain ⟨R6, eR6, hF⟩ := qletE hF
  have hz7 : qok R6 R4.2.2.1 9 := qok.z eR6
  have E_3 : qExt R4 R6 := qExt.z eR6
  have hW_3 : qWT R6 := hW_2.z eR6
  have ha0_3 : qok R6 a0 4 := ha0_2.ext E_3
  obtain ⟨R8, eR8, hF⟩ := qletE hF
  have E_4 : qExt R6 R8 := qExt.pr eR8
  have hW_4 : qWT R8 := hW_3.pr ha0_3 hz7 eR8
  have ha0_4 : qok R8 a0 4 := ha0_3.ext E_4
  obtain ⟨I9, eI9, hF⟩ := qletE hF
  obtain ⟨R10, eR10, hF⟩ := qletE hF
  have hz11 : qok R10 R8.2.2.1 9 := qok.z eR10
  have E_5 : qExt R8 R10 := qExt.z eR10
  have hW_5 : qWT R10 := hW_4.z eR10
  have ha0_5 : qok R10 a0 4 := ha0_4.ext E_5
  obtain ⟨R12, eR12, hF⟩ := qletE hF
  have E_6 : qExt R10 R12 := qExt.pr eR12
  have hW_6 : qWT R12 := hW_5.pr ha0_5 hz11 eR12
  have ha0_6 : qok R12 a0 4 := ha0_5.ext E_6
  obtain ⟨I13, eI13, hF⟩ := qletE hF
  obtain ⟨R14, eR14, hF⟩ := qletE hF
  have hz15 : qok R14 R12.2.2.1 2 := qok.z eR14
  have E_7 : qExt R12 R14 := qExt.z eR14
  have hW_7 : qWT R14 := hW_6.z eR14
  have ha0_7 : qok R14 a0 4 := ha0_6.ext E_7
  obtain ⟨y16, ey16, hF⟩ := qbind hF
  have eX_8 := eX2_init hW_7 hz15 ey16
  have E_8 : qExt R14 y16.2 := eX_8.2
  have hW_8 : qWT y16.2 := eX_8.1
  have ha0_8 : qok y16.2 a0 4 := ha0_7.ext E_8
  have hz15_8 : qok y16.2 R12.2.2.1 2 := hz15.ext E_8
  obtain ⟨R17, eR17, hF⟩ := qletE hF
  have E_9 : qExt y16.2 R17 := qExt.pr eR17
  have hW_9 : qWT R17 := hW_8.pr ha0_8 hz15_8 eR17
  have ha0_9 : qok R17 a0 4 := ha0_8.ext E_9
  obtain ⟨I18, eI18, hF⟩ := qletE hF
  obtain ⟨R19, eR19, hF⟩ := qletE hF
  have hz20 : qok R19 R17.2.2.1 0 := qok.z eR19
  have E_10 : qExt R17 R19 := qExt.z eR19
  have hW_10 : qWT R19 := hW_9.z eR19
  have ha0_10 : qok R19 a0 4 := ha0_9.ext E_10
  obtain ⟨y21, ey21, hF⟩ := qbind hF
  have eX_11 := eX0_init hW_10 hz20 ey21
  have E_11 : qExt R19 y21.2 := eX_11.2
  have hW_11 : qWT y21.2 := eX_11.1
  have ha0_11 : qok y21.2 a0 4 := ha0_10.ext E_11
  have hz20_11 : qok y21.2 R17.2.2.1 0 := hz20.ext E_11
  obtain ⟨R22, eR22, hF⟩ := qletE hF
  have E_12 : qExt y21.2 R22 := qExt.pr eR22
  have hW_12 : qWT R22 := hW_11.pr ha0_11 hz20_11 eR22
  have ha0_12 : qok R22 a0 4 := ha0_11.ext E_12
  obtain ⟨I23, eI23, hF⟩ := qletE hF
  obtain ⟨R24, eR24, hF⟩ := qletE hF
  have hz25 : qok R24 R22.2.2.1 1 := qok.z eR24
  have E_13 : qExt R22 R24 := qExt.z eR24
  have hW_13 : qWT R24 := hW_12.z eR24
  have ha0_13 : qok R24 a0 4 := ha0_12.ext E_13
  obtain ⟨y26, ey26, hF⟩ := qbind hF
  have eX_14 := eX1_init hW_13 hz25 ey26
  have E_14 : qExt R24 y26.2 := eX_14.2
  have hW_14 : qWT y26.2 := eX_14.1
  have ha0_14 : qok y26.2 a0 4 := ha0_13.ext E_14
  have hz25_14 : qok y26.2 R22.2.2.1 1 := hz25.ext E_14
  obtain ⟨R27, eR27, hF⟩ := qletE hF
  have E_15 : qExt y26.2 R27 := qExt.pr eR27
  have hW_15 : qWT R27 := hW_14.pr ha0_14 hz25_14 eR27
  have ha0_15 : qok R27 a0 4 := ha0_14.ext E_15
  obtain ⟨r28, er28, hF⟩ := qbind hF
  have kr28 : qok R27 r28 11 := hW_15.get ha0_15 er28 rfl
  obtain ⟨I29, eI29, hF⟩ := qletE hF
  obtain ⟨R30, eR30, hF⟩ := qletE hF
  have hz31 : qok R30 R27.2.2.1 5 := qok.z eR30
  have E_16 : qExt R27 R30 := qExt.z eR30
  have hW_16 : qWT R30 := hW_15.z eR30
  have ha0_16 : qok R30 a0 4 := ha0_15.ext E_16
  have kr28_16 : qok R30 r28 11 := kr28.ext E_16
  obtain ⟨y32, ey32, hF⟩ := qbind hF
  have eX_17 := eX5_init hW_16 hz31 ey32
  have E_17 : qExt R30 y32.2 := eX_17.2
  have hW_17 : qWT y32.2 := eX_17.1
  have ha0_17 : qok y32.2 a0 4 := ha0_16.ext E_17
  have kr28_17 : qok y32.2 r28 11 := kr28_16.ext E_17
  have hz31_17 : qok y32.2 R27.2.2.1 5 := hz31.ext E_17
  obtain ⟨R33, eR33, hF⟩ := qbind hF
  have E_18 : qExt y32.2 R33 := qExt.pr (qwa_some eR33).2.symm
  have hW_18 : qWT R33 := hW_17.pr kr28_17 hz31_17 (qwa_some eR33).2.symm
  have ha0_18 : qok R33 a0 4 := ha0_17.ext E_18
  obtain ⟨r34, er34, hF⟩ := qbind hF
  have kr34 : qok R33 r34 11 := hW_18.get ha0_18 er34 rfl
  obtain ⟨I35, eI35, hF⟩ := qletE hF
  obtain ⟨R36, eR36, hF⟩ := qletE hF
  have hz37 : qok R36 R33.2.2.1 5 := qok.z eR36
  have E_19 : qExt R33 R36 := qExt.z eR36
  have hW_19 : qWT R36 := hW_18.z eR36
  have ha0_19 : qok R36 a0 4 := ha0_18.ext E_19
  have kr34_19 : qok R36 r34 11 := kr34.ext E_19
  obtain ⟨y38, ey38, hF⟩ := qbind hF
  have eX_20 := eX5_init hW_19 hz37 ey38
  have E_20 : qExt R36 y38.2 := eX_20.2
  have hW_20 : qWT y38.2 := eX_20.1
  have ha0_20 : qok y38.2 a0 4 := ha0_19.ext E_20
  have kr34_20 : qok y38.2 r34 11 := kr34_19.ext E_20
  have hz37_20 : qok y38.2 R33.2.2.1 5 := hz37.ext E_20
  obtain ⟨R39, eR39, hF⟩ := qbind hF
  have E_21 : qExt y38.2 R39 := qExt.pr (qwa_some eR39).2.symm
  have hW_21 : qWT R39 := hW_20.pr kr34_20 hz37_20 (qwa_some eR39).2.symm
  have ha0_21 : qok R39 a0 4 := ha0_20.ext E_21
  obtain ⟨r40, er40, hF⟩ := qbind hF
  have kr40 : qok R39 r40 11 := hW_21.get ha0_21 er40 rfl
  obtain ⟨I41, eI41, hF⟩ := qletE hF
  obtain ⟨R42, eR42, hF⟩ := qletE hF
  have hz43 : qok R42 R39.2.2.1 5 := qok.z eR42
  have E_22 : qExt R39 R42 := qExt.z eR42
  have hW_22 : qWT R42 := hW_21.z eR42
  have ha0_22 : qok R42 a0 4 := ha0_21.ext E_22
  have kr40_22 : qok R42 r40 11 := kr40.ext E_22
  obtain ⟨y44, ey44, hF⟩ := qbind hF
  have eX_23 := eX5_init hW_22 hz43 ey44
  have E_23 : qExt R42 y44.2 := eX_23.2
  have hW_23 : qWT y44.2 := eX_23.1
  have ha0_23 : qok y44.2 a0 4 := ha0_22.ext E_23
  have kr40_23 : qok y44.2 r40 11 := kr40_22.ext E_23
  have hz43_23 : qok y44.2 R39.2.2.1 5 := hz43.ext E_23
  obtain ⟨R45, eR45, hF⟩ := qbind hF
  have E_24 : qExt y44.2 R45 := qExt.pr (qwa_some eR45).2.symm
  have hW_24 : qWT R45 := hW_23.pr kr40_23 hz43_23 (qwa_some eR45).2.symm
  have ha0_24 : qok R45 a0 4 := ha0_23.ext E_24
  obtain ⟨r46, er46, hF⟩ := qbind hF
  have kr46 : qok R45 r46 11 := hW_24.get ha0_24 er46 rfl
  obtain ⟨I47, eI47, hF⟩ := qletE hF
  obtain ⟨R48, eR48, hF⟩ := qletE hF
  have hz49 : qok R48 R45.2.2.1 5 := qok.z eR48
  have E_25 : qExt R45 R48 := qExt.z eR48
  have hW_25 : qWT R48 := hW_24.z eR48
  have ha0_25 : qok R48 a0 4 := ha0_24.ext E_25
  have kr46_25 : qok R48 r46 11 := kr46.ext E_25
  obtain ⟨y50, ey50, hF⟩ := qbind hF
  have eX_26 := eX5_init hW_25 hz49 ey50
  have E_26 : qExt R48 y50.2 := eX_26.2
  have hW_26 : qWT y50.2 := eX_26.1
  have ha0_26 : qok y50.2 a0 4 := ha0_25.ext E_26
  have kr46_26 : qok y50.2 r46 11 := kr46_25.ext E_26
  have hz49_26 : qok y50.2 R45.2.2.1 5 := hz49.ext E_26
  obtain ⟨R51, eR51, hF⟩ := qbind hF
  have E_27 : qExt y50.2 R51 := qExt.pr (qwa_some eR51).2.symm
  have hW_27 : qWT R51 := hW_26.pr kr46_26 hz49_26 (qwa_some eR51).2.symm
  have ha0_27 : qok R51 a0 4 := ha0_26.ext E_27
  obtain ⟨r52, er52, hF⟩ := qbind hF
  have kr52 : qok R51 r52 11 := hW_27.get ha0_27 er52 rfl
  obtain ⟨I53, eI53, hF⟩ := qletE hF
  obtain ⟨R54, eR54, hF⟩ := qletE hF
  have hz55 : qok R54 R51.2.2.1 5 := qok.z eR54
  have E_28 : qExt R51 R54 := qExt.z eR54
  have hW_28 : qWT R54 := hW_27.z eR54
  have ha0_28 : qok R54 a0 4 := ha0_27.ext E_28
  have kr52_28 : qok R54 r52 11 := kr52.ext E_28
  obtain ⟨y56, ey56, hF⟩ := qbind hF
  have eX_29 := eX5_init hW_28 hz55 ey56
  have E_29 : qExt R54 y56.2 := eX_29.2
  have hW_29 : qWT y56.2 := eX_29.1
  have ha0_29 : qok y56.2 a0 4 := ha0_28.ext E_29
  have kr52_29 : qok y56.2 r52 11 := kr52_28.ext E_29
  have hz55_29 : qok y56.2 R51.2.2.1 5 := hz55.ext E_29
  obtain ⟨R57, eR57, hF⟩ := qbind hF
  have E_30 : qExt y56.2 R57 := qExt.pr (qwa_some eR57).2.symm
  have hW_30 : qWT R57 := hW_29.pr kr52_29 hz55_29 (qwa_some eR57).2.symm
  have ha0_30 : qok R57 a0 4 := ha0_29.ext E_30
  obtain ⟨r58, er58, hF⟩ := qbind hF
  have kr58 : qok R57 r58 11 := hW_30.get ha0_30 er58 rfl
  obtain ⟨I59, eI59, hF⟩ := qletE hF
  obtain ⟨R60, eR60, hF⟩ := qletE hF
  have hz61 : qok R60 R57.2.2.1 5 := qok.z eR60
  have E_31 : qExt R57 R60 := qExt.z eR60
  have hW_31 : qWT R60 := hW_30.z eR60
  have ha0_31 : qok R60 a0 4 := ha0_30.ext E_31
  have kr58_31 : qok R60 r58 11 := kr58.ext E_31
  obtain ⟨y62, ey62, hF⟩ := qbind hF
  have eX_32 := eX5_init hW_31 hz61 ey62
  have E_32 : qExt R60 y62.2 := eX_32.2
  have hW_32 : qWT y62.2 := eX_32.1
  have ha0_32 : qok y62.2 a0 4 := ha0_31.ext E_32
  have kr58_32 : qok y62.2 r58 11 := kr58_31.ext E_32
  have hz61_32 : qok y62.2 R57.2.2.1 5 := hz61.ext E_32
  obtain ⟨R63, eR63, hF⟩ := qbind hF
  have E_33 : qExt y62.2 R63 := qExt.pr (qwa_some eR63).2.symm
  have hW_33 : qWT R63 := hW_32.pr kr58_32 hz61_32 (qwa_some eR63).2.symm
  have ha0_33 : qok R63 a0 4 := ha0_32.ext E_33
  obtain ⟨rfl, rfl⟩ := qpair hF
  have hX_33 := qX_end hW_33
  have hX_32 := qx_trans E_33 hX_33
  have hX_31 := qx_trans E_32 hX_32
  have hX_30 := qx_trans E_31 hX_31
  have hX_29 := qx_trans E_30 hX_30
  have hX_28 := qx_trans E_29 hX_29
  have hX_27 := qx_trans E_28 hX_28
  have hX_26 := qx_trans E_27 hX_27
  have hX_25 := qx_trans E_26 hX_26
  have hX_24 := qx_trans E_25 hX_25
  have hX_23 := qx_trans E_24 hX_24
  have hX_22 := qx_trans E_23 hX_23
  have hX_21 := qx_trans E_22 hX_22
  have hX_20 := qx_trans E_21 hX_21
  have hX_19 := qx_trans E_20 hX_20
  have hX_18 := qx_trans E_19 hX_19
  have hX_17 := qx_trans E_18 hX_18
  have hX_16 := qx_trans E_17 hX_17
  have hX_15 := qx_trans E_16 hX_16
  have hX_14 := qx_trans E_15 hX_15
  have hX_13 := qx_trans E_14 hX_14
  have hX_12 := qx_trans E_13 hX_13
  have hX_11 := qx_trans E_12 hX_12
  have hX_10 := qx_trans E_11 hX_11
  have hX_9 := qx_trans E_10 hX_10
  have hX_8 := qx_trans E_9 hX_9
  have hX_7 := qx_trans E_8 hX_8
  have hX_6 := qx_trans E_7 hX_7
  have hX_5 := qx_trans E_6 hX_6
  have hX_4 := qx_trans E_5 hX_5
  have hX_3 := qx_trans E_4 hX_4
  have hX_2 := qx_trans E_3 hX_3
  have hX_1 := qx_trans E_2 hX_2
  have hX := qx_trans E_1 hX_1
  exact hX
set_option maxHeartbeats 4000000 in
set_option maxRecDepth 100000 in
theorem sX4_init {l : Launch} {G : qG} {N : Nat} {R : qR} {I : qI} {a0 : Nat} {rI : qI} {rR : qR} (hW : qWT R) (ha0 : qok R a0 4) (hF : fX4_init N R I a0 = some (rI, rR)) : qMt l G mX4_init 3 [.ref (G.1 + a0)] I R (none) rI rR := by
  unfold fX4_init at hF
  obtain ⟨I1, eI1, hF⟩ := qletE hF
  obtain ⟨R2, eR2, hF⟩ := qletE hF
  have hz3 : qok R2 R.2.2.1 11 := qok.z eR2
  have E_1 : qExt R R2 := qExt.z eR2
  have hW_1 : qWT R2 := hW.z eR2
  have ha0_1 : qok R2 a0 4 := ha0.ext E_1
  obtain ⟨R4, eR4, hF⟩ := qletE hF
  have E_2 : qExt R2 R4 := qExt.pr eR4
  have hW_2 : qWT R4 := hW_1.pr ha0_1 hz3 eR4
  have ha0_2 : qok R4 a0 4 := ha0_1.ext E_2
  obtain ⟨I5, eI5, hF⟩ := qletE hF
  obtain ⟨R6, eR6, hF⟩ := qletE hF
  have hz7 : qok R6 R4.2.2.1 9 := qok.z eR6
  have E_3 : qExt R4 R6 := qExt.z eR6
  have hW_3 : qWT R6 := hW_2.z eR6
  have ha0_3 : qok R6 a0 4 := ha0_2.ext E_3
  obtain ⟨R8, eR8, hF⟩ := qletE hF
  have E_4 : qExt R6 R8 := qExt.pr eR8
  have hW_4 : qWT R8 := hW_3.pr ha0_3 hz7 eR8
  have ha0_4 : qok R8 a0 4 := ha0_3.ext E_4
  obtain ⟨I9, eI9, hF⟩ := qletE hF
  obtain ⟨R10, eR10, hF⟩ := qletE hF
  have hz11 : qok R10 R8.2.2.1 9 := qok.z eR10
  have E_5 : qExt R8 R10 := qExt.z eR10
  have hW_5 : qWT R10 := hW_4.z eR10
  have ha0_5 : qok R10 a0 4 := ha0_4.ext E_5
  obtain ⟨R12, eR12, hF⟩ := qletE hF
  have E_6 : qExt R10 R12 := qExt.pr eR12
  have hW_6 : qWT R12 := hW_5.pr ha0_5 hz11 eR12
  have ha0_6 : qok R12 a0 4 := ha0_5.ext E_6
  obtain ⟨I13, eI13, hF⟩ := qletE hF
  obtain ⟨R14, eR14, hF⟩ := qletE hF
  have hz15 : qok R14 R12.2.2.1 2 := qok.z eR14
  have E_7 : qExt R12 R14 := qExt.z eR14
  have hW_7 : qWT R14 := hW_6.z eR14
  have ha0_7 : qok R14 a0 4 := ha0_6.ext E_7
  obtain ⟨y16, ey16, hF⟩ := qbind hF
  have eX_8 := eX2_init hW_7 hz15 ey16
  have E_8 : qExt R14 y16.2 := eX_8.2
  have hW_8 : qWT y16.2 := eX_8.1
  have ha0_8 : qok y16.2 a0 4 := ha0_7.ext E_8
  have hz15_8 : qok y16.2 R12.2.2.1 2 := hz15.ext E_8
  obtain ⟨R17, eR17, hF⟩ := qletE hF
  have E_9 : qExt y16.2 R17 := qExt.pr eR17
  have hW_9 : qWT R17 := hW_8.pr ha0_8 hz15_8 eR17
  have ha0_9 : qok R17 a0 4 := ha0_8.ext E_9
  obtain ⟨I18, eI18, hF⟩ := qletE hF
  obtain ⟨R19, eR19, hF⟩ := qletE hF
  have hz20 : qok R19 R17.2.2.1 0 := qok.z eR19
  have E_10 : qExt R17 R19 := qExt.z eR19
  have hW_10 : qWT R19 := hW_9.z eR19
  have ha0_10 : qok R19 a0 4 := ha0_9.ext E_10
  obtain ⟨y21, ey21, hF⟩ := qbind hF
  have eX_11 := eX0_init hW_10 hz20 ey21
  have E_11 : qExt R19 y21.2 := eX_11.2
  have hW_11 : qWT y21.2 := eX_11.1
  have ha0_11 : qok y21.2 a0 4 := ha0_10.ext E_11
  have hz20_11 : qok y21.2 R17.2.2.1 0 := hz20.ext E_11
  obtain ⟨R22, eR22, hF⟩ := qletE hF
  have E_12 : qExt y21.2 R22 := qExt.pr eR22
  have hW_12 : qWT R22 := hW_11.pr ha0_11 hz20_11 eR22
  have ha0_12 : qok R22 a0 4 := ha0_11.ext E_12
  obtain ⟨I23, eI23, hF⟩ := qletE hF
  obtain ⟨R24, eR24, hF⟩ := qletE hF
  have hz25 : qok R24 R22.2.2.1 1 := qok.z eR24
  have E_13 : qExt R22 R24 := qExt.z eR24
  have hW_13 : qWT R24 := hW_12.z eR24
  have ha0_13 : qok R24 a0 4 := ha0_12.ext E_13
  obtain ⟨y26, ey26, hF⟩ := qbind hF
  have eX_14 := eX1_init hW_13 hz25 ey26
  have E_14 : qExt R24 y26.2 := eX_14.2
  have hW_14 : qWT y26.2 := eX_14.1
  have ha0_14 : qok y26.2 a0 4 := ha0_13.ext E_14
  have hz25_14 : qok y26.2 R22.2.2.1 1 := hz25.ext E_14
  obtain ⟨R27, eR27, hF⟩ := qletE hF
  have E_15 : qExt y26.2 R27 := qExt.pr eR27
  have hW_15 : qWT R27 := hW_14.pr ha0_14 hz25_14 eR27
  have ha0_15 : qok R27 a0 4 := ha0_14.ext E_15
  obtain ⟨r28, er28, hF⟩ := qbind hF
  have kr28 : qok R27 r28 11 := hW_15.get ha0_15 er28 rfl
  obtain ⟨I29, eI29, hF⟩ := qletE hF
  obtain ⟨R30, eR30, hF⟩ := qletE hF
  have hz31 : qok R30 R27.2.2.1 5 := qok.z eR30
  have E_16 : qExt R27 R30 := qExt.z eR30
  have hW_16 : qWT R30 := hW_15.z eR30
  have ha0_16 : qok R30 a0 4 := ha0_15.ext E_16
  have kr28_16 : qok R30 r28 11 := kr28.ext E_16
  obtain ⟨y32, ey32, hF⟩ := qbind hF
  have eX_17 := eX5_init hW_16 hz31 ey32
  have E_17 : qExt R30 y32.2 := eX_17.2
  have hW_17 : qWT y32.2 := eX_17.1
  have ha0_17 : qok y32.2 a0 4 := ha0_16.ext E_17
  have kr28_17 : qok y32.2 r28 11 := kr28_16.ext E_17
  have hz31_17 : qok y32.2 R27.2.2.1 5 := hz31.ext E_17
  obtain ⟨R33, eR33, hF⟩ := qbind hF
  have E_18 : qExt y32.2 R33 := qExt.pr (qwa_some eR33).2.symm
  have hW_18 : qWT R33 := hW_17.pr kr28_17 hz31_17 (qwa_some eR33).2.symm
  have ha0_18 : qok R33 a0 4 := ha0_17.ext E_18
  obtain ⟨r34, er34, hF⟩ := qbind hF
  have kr34 : qok R33 r34 11 := hW_18.get ha0_18 er34 rfl
  obtain ⟨I35, eI35, hF⟩ := qletE hF
  obtain ⟨R36, eR36, hF⟩ := qletE hF
  have hz37 : qok R36 R33.2.2.1 5 := qok.z eR36
  have E_19 : qExt R33 R36 := qExt.z eR36
  have hW_19 : qWT R36 := hW_18.z eR36
  have ha0_19 : qok R36 a0 4 := ha0_18.ext E_19
  have kr34_19 : qok R36 r34 11 := kr34.ext E_19
  obtain ⟨y38, ey38, hF⟩ := qbind hF
  have eX_20 := eX5_init hW_19 hz37 ey38
  have E_20 : qExt R36 y38.2 := eX_20.2
  have hW_20 : qWT y38.2 := eX_20.1
  have ha0_20 : qok y38.2 a0 4 := ha0_19.ext E_20
  have kr34_20 : qok y38.2 r34 11 := kr34_19.ext E_20
  have hz37_20 : qok y38.2 R33.2.2.1 5 := hz37.ext E_20
  obtain ⟨R39, eR39, hF⟩ := qbind hF
  have E_21 : qExt y38.2 R39 := qExt.pr (qwa_some eR39).2.symm
  have hW_21 : qWT R39 := hW_20.pr kr34_20 hz37_20 (qwa_some eR39).2.symm
  have ha0_21 : qok R39 a0 4 := ha0_20.ext E_21
  obtain ⟨r40, er40, hF⟩ := qbind hF
  have kr40 : qok R39 r40 11 := hW_21.get ha0_21 er40 rfl
  obtain ⟨I41, eI41, hF⟩ := qletE hF
  obtain ⟨R42, eR42, hF⟩ := qletE hF
  have hz43 : qok R42 R39.2.2.1 5 := qok.z eR42
  have E_22 : qExt R39 R42 := qExt.z eR42
  have hW_22 : qWT R42 := hW_21.z eR42
  have ha0_22 : qok R42 a0 4 := ha0_21.ext E_22
  have kr40_22 : qok R42 r40 11 := kr40.ext E_22
  obtain ⟨y44, ey44, hF⟩ := qbind hF
  have eX_23 := eX5_init hW_22 hz43 ey44
  have E_23 : qExt R42 y44.2 := eX_23.2
  have hW_23 : qWT y44.2 := eX_23.1
  have ha0_23 : qok y44.2 a0 4 := ha0_22.ext E_23
  have kr40_23 : qok y44.2 r40 11 := kr40_22.ext E_23
  have hz43_23 : qok y44.2 R39.2.2.1 5 := hz43.ext E_23
  obtain ⟨R45, eR45, hF⟩ := qbind hF
  have E_24 : qExt y44.2 R45 := qExt.pr (qwa_some eR45).2.symm
  have hW_24 : qWT R45 := hW_23.pr kr40_23 hz43_23 (qwa_some eR45).2.symm
  have ha0_24 : qok R45 a0 4 := ha0_23.ext E_24
  obtain ⟨r46, er46, hF⟩ := qbind hF
  have kr46 : qok R45 r46 11 := hW_24.get ha0_24 er46 rfl
  obtain ⟨I47, eI47, hF⟩ := qletE hF
  obtain ⟨R48, eR48, hF⟩ := qletE hF
  have hz49 : qok R48 R45.2.2.1 5 := qok.z eR48
  have E_25 : qExt R45 R48 := qExt.z eR48
  have hW_25 : qWT R48 := hW_24.z eR48
  have ha0_25 : qok R48 a0 4 := ha0_24.ext E_25
  have kr46_25 : qok R48 r46 11 := kr46.ext E_25
  obtain ⟨y50, ey50, hF⟩ := qbind hF
  have eX_26 := eX5_init hW_25 hz49 ey50
  have E_26 : qExt R48 y50.2 := eX_26.2
  have hW_26 : qWT y50.2 := eX_26.1
  have ha0_26 : qok y50.2 a0 4 := ha0_25.ext E_26
  have kr46_26 : qok y50.2 r46 11 := kr46_25.ext E_26
  have hz49_26 : qok y50.2 R45.2.2.1 5 := hz49.ext E_26
  obtain ⟨R51, eR51, hF⟩ := qbind hF
  have E_27 : qExt y50.2 R51 := qExt.pr (qwa_some eR51).2.symm
  have hW_27 : qWT R51 := hW_26.pr kr46_26 hz49_26 (qwa_some eR51).2.symm
  have ha0_27 : qok R51 a0 4 := ha0_26.ext E_27
  obtain ⟨r52, er52, hF⟩ := qbind hF
  have kr52 : qok R51 r52 11 := hW_27.get ha0_27 er52 rfl
  obtain ⟨I53, eI53, hF⟩ := qletE hF
  obtain ⟨R54, eR54, hF⟩ := qletE hF
  have hz55 : qok R54 R51.2.2.1 5 := qok.z eR54
  have E_28 : qExt R51 R54 := qExt.z eR54
  have hW_28 : qWT R54 := hW_27.z eR54
  have ha0_28 : qok R54 a0 4 := ha0_27.ext E_28
  have kr52_28 : qok R54 r52 11 := kr52.ext E_28
  obtain ⟨y56, ey56, hF⟩ := qbind hF
  have eX_29 := eX5_init hW_28 hz55 ey56
  have E_29 : qExt R54 y56.2 := eX_29.2
  have hW_29 : qWT y56.2 := eX_29.1
  have ha0_29 : qok y56.2 a0 4 := ha0_28.ext E_29
  have kr52_29 : qok y56.2 r52 11 := kr52_28.ext E_29
  have hz55_29 : qok y56.2 R51.2.2.1 5 := hz55.ext E_29
  obtain ⟨R57, eR57, hF⟩ := qbind hF
  have E_30 : qExt y56.2 R57 := qExt.pr (qwa_some eR57).2.symm
  have hW_30 : qWT R57 := hW_29.pr kr52_29 hz55_29 (qwa_some eR57).2.symm
  have ha0_30 : qok R57 a0 4 := ha0_29.ext E_30
  obtain ⟨r58, er58, hF⟩ := qbind hF
  have kr58 : qok R57 r58 11 := hW_30.get ha0_30 er58 rfl
  obtain ⟨I59, eI59, hF⟩ := qletE hF
  obtain ⟨R60, eR60, hF⟩ := qletE hF
  have hz61 : qok R60 R57.2.2.1 5 := qok.z eR60
  have E_31 : qExt R57 R60 := qExt.z eR60
  have hW_31 : qWT R60 := hW_30.z eR60
  have ha0_31 : qok R60 a0 4 := ha0_30.ext E_31
  have kr58_31 : qok R60 r58 11 := kr58.ext E_31
  obtain ⟨y62, ey62, hF⟩ := qbind hF
  have eX_32 := eX5_init hW_31 hz61 ey62
  have E_32 : qExt R60 y62.2 := eX_32.2
  have hW_32 : qWT y62.2 := eX_32.1
  have ha0_32 : qok y62.2 a0 4 := ha0_31.ext E_32
  have kr58_32 : qok y62.2 r58 11 := kr58_31.ext E_32
  have hz61_32 : qok y62.2 R57.2.2.1 5 := hz61.ext E_32
  obtain ⟨R63, eR63, hF⟩ := qbind hF
  have E_33 : qExt y62.2 R63 := qExt.pr (qwa_some eR63).2.symm
  have hW_33 : qWT R63 := hW_32.pr kr58_32 hz61_32 (qwa_some eR63).2.symm
  have ha0_33 : qok R63 a0 4 := ha0_32.ext E_33
  obtain ⟨rfl, rfl⟩ := qpair hF
  have hX_33 := qX_end hW_33
  have hX_32 := qx_trans E_33 hX_33
  have hX_31 := qx_trans E_32 hX_32
  have hX_30 := qx_trans E_31 hX_31
  have hX_29 := qx_trans E_30 hX_30
  have hX_28 := qx_trans E_29 hX_29
  have hX_27 := qx_trans E_28 hX_28
  have hX_26 := qx_trans E_27 hX_27
  have hX_25 := qx_trans E_26 hX_26
  have hX_24 := qx_trans E_25 hX_25
  have hX_23 := qx_trans E_24 hX_24
  have hX_22 := qx_trans E_23 hX_23
  have hX_21 := qx_trans E_22 hX_22
  have hX_20 := qx_trans E_21 hX_21
  have hX_19 := qx_trans E_20 hX_20
  have hX_18 := qx_trans E_19 hX_19
  have hX_17 := qx_trans E_18 hX_18
  have hX_16 := qx_trans E_17 hX_17
  have hX_15 := qx_trans E_16 hX_16
  have hX_14 := qx_trans E_15 hX_15
  have hX_13 := qx_trans E_14 hX_14
  have hX_12 := qx_trans E_13 hX_13
  have hX_11 := qx_trans E_12 hX_12
  have hX_10 := qx_trans E_11 hX_11
  have hX_9 := qx_trans E_10 hX_10
  have hX_8 := qx_trans E_9 hX_9
  have hX_7 := qx_trans E_8 hX_8
  have hX_6 := qx_trans E_7 hX_7
  have hX_5 := qx_trans E_6 hX_6
  have hX_4 := qx_trans E_5 hX_5
  have hX_3 := qx_trans E_4 hX_4
  have hX_2 := qx_trans E_3 hX_3
  have hX_1 := qx_trans E_2 hX_2
  have hX := qx_trans E_1 hX_1
  refine qMt_of (by decide) (Nat.le_of_ble_eq_true rfl) ⟨hX.2.1, hX.2.2.1⟩ ?_
  show AW _ 0 [(0, .ref (G.1 + a0))] [] I R
  refine aw_aload_n dX4_init_0 0 rfl rfl ?_
  refine aw_objInit cl_X4_3 cx_oi cx_oc rfl (Nat.le_of_ble_eq_true rfl) (Nat.le_of_ble_eq_true rfl) (Nat.le_of_ble_eq_true rfl) dX4_init_1 ?_
  refine aw_aload_n dX4_init_4 0 rfl rfl ?_
  refine aw_bipush (v := (6 : Int32)) dX4_init_5 (by decide) ?_
  refine aw_newtq cc_X4_9 (by decide) (by decide) (by decide) eI1 eR2 hX_1.2 rfl dX4_init_7 ?_
  refine aw_putFq fl_X4_11 (by decide) fs_X4_0 fn_X4_0 ft_X4_0 fo_X4 rfl ha0_1 eR4 rfl dX4_init_10 ?_
  refine aw_aload_n dX4_init_13 0 rfl rfl ?_
  refine aw_bipush (v := (6 : Int32)) dX4_init_14 (by decide) ?_
  refine aw_newiq (by decide) (by decide) (by decide) eI5 eR6 hX_3.2 dX4_init_16 ?_
  refine aw_putFq fl_X4_17 (by decide) fs_X4_1 fn_X4_1 ft_X4_1 fo_X4 rfl ha0_3 eR8 rfl dX4_init_18 ?_
  refine aw_aload_n dX4_init_21 0 rfl rfl ?_
  refine aw_bipush (v := (42 : Int32)) dX4_init_22 (by decide) ?_
  refine aw_newiq (by decide) (by decide) (by decide) eI9 eR10 hX_5.2 dX4_init_24 ?_
  refine aw_putFq fl_X4_21 (by decide) fs_X4_2 fn_X4_2 ft_X4_2 fo_X4 rfl ha0_5 eR12 rfl dX4_init_26 ?_
  refine aw_aload_n dX4_init_29 0 rfl rfl ?_
  refine aw_newq nw_X4_24 eI13 eR14 hX_7.2 rfl dX4_init_30 ?_
  refine aw_dup dX4_init_33 rfl ?_
  refine aw_callIN (As := []) (sX2_init hW_7 hz15 ey16) cl_X4_26 rfl (qroomH (by decide) (by decide) hX_8.2) rfl (Nat.le_of_ble_eq_true rfl) dX4_init_34 rfl ?_
  refine aw_putFq fl_X4_27 (by decide) fs_X4_3 fn_X4_3 ft_X4_3 fo_X4 rfl ha0_8 eR17 rfl dX4_init_37 ?_
  refine aw_aload_n dX4_init_40 0 rfl rfl ?_
  refine aw_newq nw_X4_31 eI18 eR19 hX_10.2 rfl dX4_init_41 ?_
  refine aw_dup dX4_init_44 rfl ?_
  refine aw_callIN (As := []) (sX0_init hW_10 hz20 ey21) cl_X4_33 rfl (qroomH (by decide) (by decide) hX_11.2) rfl (Nat.le_of_ble_eq_true rfl) dX4_init_45 rfl ?_
  refine aw_putFq fl_X4_34 (by decide) fs_X4_4 fn_X4_4 ft_X4_4 fo_X4 rfl ha0_11 eR22 rfl dX4_init_48 ?_
  refine aw_aload_n dX4_init_51 0 rfl rfl ?_
  refine aw_newq nw_X4_38 eI23 eR24 hX_13.2 rfl dX4_init_52 ?_
  refine aw_dup dX4_init_55 rfl ?_
  refine aw_callIN (As := []) (sX1_init hW_13 hz25 ey26) cl_X4_40 rfl (qroomH (by decide) (by decide) hX_14.2) rfl (Nat.le_of_ble_eq_true rfl) dX4_init_56 rfl ?_
  refine aw_putFq fl_X4_41 (by decide) fs_X4_5 fn_X4_5 ft_X4_5 fo_X4 rfl ha0_14 eR27 rfl dX4_init_59 ?_
  refine aw_iconst (v := (0 : Int32)) dX4_init_62 (by decide) ?_
  refine aw_istore_n (lv' := [(1, .int (0 : Int32)), (0, .ref (G.1 + a0))]) dX4_init_63 rfl (Nat.le_of_ble_eq_true rfl) rfl ?_
  refine aw_iload_n dX4_init_64 0 rfl rfl ?_
  refine aw_bipush (v := (6 : Int32)) dX4_init_65 (by decide) ?_
  refine aw_icmp_ge (tgt := 89) dX4_init_67 (by decide) (fun c => absurd c (by decide)) (fun c => ?_)
  refine aw_aload_n dX4_init_70 1 rfl rfl ?_
  refine aw_getr fl_X4_11 (by decide) fg_X4_0 ha0_15 er28 rfl dX4_init_71 ?_
  refine aw_iload_n dX4_init_74 0 rfl rfl ?_
  refine aw_newq nw_X4_9 eI29 eR30 hX_16.2 rfl dX4_init_75 ?_
  refine aw_dup dX4_init_78 rfl ?_
  refine aw_callI (As := []) (sX5_init hW_16 hz31 ey32) cl_X4_45 rfl (qroomH (by decide) (by decide) hX_17.2) rfl (Nat.le_of_ble_eq_true rfl) dX4_init_79 rfl ?_
  refine aw_aastq kr28_17 eR33 hz31_17 dX4_init_82 ?_
  refine aw_iinc (q := 0) (v := (1 : Int32)) (lv' := [(1, .int (1 : Int32)), (0, .ref (G.1 + a0))]) dX4_init_83 rfl (by decide) (Nat.le_of_ble_eq_true rfl) rfl ?_
  refine aw_goto (tgt := 64) dX4_init_86 (by decide) ?_
  refine aw_iload_n dX4_init_64 0 rfl rfl ?_
  refine aw_bipush (v := (6 : Int32)) dX4_init_65 (by decide) ?_
  refine aw_icmp_ge (tgt := 89) dX4_init_67 (by decide) (fun c => absurd c (by decide)) (fun c => ?_)
  refine aw_aload_n dX4_init_70 1 rfl rfl ?_
  refine aw_getr fl_X4_11 (by decide) fg_X4_0 ha0_18 er34 rfl dX4_init_71 ?_
  refine aw_iload_n dX4_init_74 0 rfl rfl ?_
  refine aw_newq nw_X4_9 eI35 eR36 hX_19.2 rfl dX4_init_75 ?_
  refine aw_dup dX4_init_78 rfl ?_
  refine aw_callI (As := []) (sX5_init hW_19 hz37 ey38) cl_X4_45 rfl (qroomH (by decide) (by decide) hX_20.2) rfl (Nat.le_of_ble_eq_true rfl) dX4_init_79 rfl ?_
  refine aw_aastq kr34_20 eR39 hz37_20 dX4_init_82 ?_
  refine aw_iinc (q := 0) (v := (2 : Int32)) (lv' := [(1, .int (2 : Int32)), (0, .ref (G.1 + a0))]) dX4_init_83 rfl (by decide) (Nat.le_of_ble_eq_true rfl) rfl ?_
  refine aw_goto (tgt := 64) dX4_init_86 (by decide) ?_
  refine aw_iload_n dX4_init_64 0 rfl rfl ?_
  refine aw_bipush (v := (6 : Int32)) dX4_init_65 (by decide) ?_
  refine aw_icmp_ge (tgt := 89) dX4_init_67 (by decide) (fun c => absurd c (by decide)) (fun c => ?_)
  refine aw_aload_n dX4_init_70 1 rfl rfl ?_
  refine aw_getr fl_X4_11 (by decide) fg_X4_0 ha0_21 er40 rfl dX4_init_71 ?_
  refine aw_iload_n dX4_init_74 0 rfl rfl ?_
  refine aw_newq nw_X4_9 eI41 eR42 hX_22.2 rfl dX4_init_75 ?_
  refine aw_dup dX4_init_78 rfl ?_
  refine aw_callI (As := []) (sX5_init hW_22 hz43 ey44) cl_X4_45 rfl (qroomH (by decide) (by decide) hX_23.2) rfl (Nat.le_of_ble_eq_true rfl) dX4_init_79 rfl ?_
  refine aw_aastq kr40_23 eR45 hz43_23 dX4_init_82 ?_
  refine aw_iinc (q := 0) (v := (3 : Int32)) (lv' := [(1, .int (3 : Int32)), (0, .ref (G.1 + a0))]) dX4_init_83 rfl (by decide) (Nat.le_of_ble_eq_true rfl) rfl ?_
  refine aw_goto (tgt := 64) dX4_init_86 (by decide) ?_
  refine aw_iload_n dX4_init_64 0 rfl rfl ?_
  refine aw_bipush (v := (6 : Int32)) dX4_init_65 (by decide) ?_
  refine aw_icmp_ge (tgt := 89) dX4_init_67 (by decide) (fun c => absurd c (by decide)) (fun c => ?_)
  refine aw_aload_n dX4_init_70 1 rfl rfl ?_
  refine aw_getr fl_X4_11 (by decide) fg_X4_0 ha0_24 er46 rfl dX4_init_71 ?_
  refine aw_iload_n dX4_init_74 0 rfl rfl ?_
  refine aw_newq nw_X4_9 eI47 eR48 hX_25.2 rfl dX4_init_75 ?_
  refine aw_dup dX4_init_78 rfl ?_
  refine aw_callI (As := []) (sX5_init hW_25 hz49 ey50) cl_X4_45 rfl (qroomH (by decide) (by decide) hX_26.2) rfl (Nat.le_of_ble_eq_true rfl) dX4_init_79 rfl ?_
  refine aw_aastq kr46_26 eR51 hz49_26 dX4_init_82 ?_
  refine aw_iinc (q := 0) (v := (4 : Int32)) (lv' := [(1, .int (4 : Int32)), (0, .ref (G.1 + a0))]) dX4_init_83 rfl (by decide) (Nat.le_of_ble_eq_true rfl) rfl ?_
  refine aw_goto (tgt := 64) dX4_init_86 (by decide) ?_
  refine aw_iload_n dX4_init_64 0 rfl rfl ?_
  refine aw_bipush (v := (6 : Int32)) dX4_init_65 (by decide) ?_
  refine aw_icmp_ge (tgt := 89) dX4_init_67 (by decide) (fun c => absurd c (by decide)) (fun c => ?_)
  refine aw_aload_n dX4_init_70 1 rfl rfl ?_
  refine aw_getr fl_X4_11 (by decide) fg_X4_0 ha0_27 er52 rfl dX4_init_71 ?_
  refine aw_iload_n dX4_init_74 0 rfl rfl ?_
  refine aw_newq nw_X4_9 eI53 eR54 hX_28.2 rfl dX4_init_75 ?_
  refine aw_dup dX4_init_78 rfl ?_
  refine aw_callI (As := []) (sX5_init hW_28 hz55 ey56) cl_X4_45 rfl (qroomH (by decide) (by decide) hX_29.2) rfl (Nat.le_of_ble_eq_true rfl) dX4_init_79 rfl ?_
  refine aw_aastq kr52_29 eR57 hz55_29 dX4_init_82 ?_
  refine aw_iinc (q := 0) (v := (5 : Int32)) (lv' := [(1, .int (5 : Int32)), (0, .ref (G.1 + a0))]) dX4_init_83 rfl (by decide) (Nat.le_of_ble_eq_true rfl) rfl ?_
  refine aw_goto (tgt := 64) dX4_init_86 (by decide) ?_
  refine aw_iload_n dX4_init_64 0 rfl rfl ?_
  refine aw_bipush (v := (6 : Int32)) dX4_init_65 (by decide) ?_
  refine aw_icmp_ge (tgt := 89) dX4_init_67 (by decide) (fun c => absurd c (by decide)) (fun c => ?_)
  refine aw_aload_n dX4_init_70 1 rfl rfl ?_
  refine aw_getr fl_X4_11 (by decide) fg_X4_0 ha0_30 er58 rfl dX4_init_71 ?_
  refine aw_iload_n dX4_init_74 0 rfl rfl ?_
  refine aw_newq nw_X4_9 eI59 eR60 hX_31.2 rfl dX4_init_75 ?_
  refine aw_dup dX4_init_78 rfl ?_
  refine aw_callI (As := []) (sX5_init hW_31 hz61 ey62) cl_X4_45 rfl (qroomH (by decide) (by decide) hX_32.2) rfl (Nat.le_of_ble_eq_true rfl) dX4_init_79 rfl ?_
  refine aw_aastq kr58_32 eR63 hz61_32 dX4_init_82 ?_
  refine aw_iinc (q := 0) (v := (6 : Int32)) (lv' := [(1, .int (6 : Int32)), (0, .ref (G.1 + a0))]) dX4_init_83 rfl (by decide) (Nat.le_of_ble_eq_true rfl) rfl ?_
  refine aw_goto (tgt := 64) dX4_init_86 (by decide) ?_
  refine aw_iload_n dX4_init_64 0 rfl rfl ?_
  refine aw_bipush (v := (6 : Int32)) dX4_init_65 (by decide) ?_
  refine aw_icmp_ge (tgt := 89) dX4_init_67 (by decide) (fun c => ?_) (fun c => absurd c (by decide))
  exact aw_vret rfl dX4_init_89 rfl rfl rfl
