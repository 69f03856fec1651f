def fX0_init (R : qR) (I : qI) (a0 : Nat) : Option (qI × qR) :=
  qlet (qzI I R.2.2.1) fun I1 =>
  qlet (qzR R 9 6) fun R2 =>
  qlet (qpr R2 a0 0 (some R.2.2.1)) fun R4 =>
  qlet (qzI I1 R4.2.2.1) fun I5 =>
  qlet (qzR R4 9 6) fun R6 =>
  qlet (qpr R6 a0 4 (some R4.2.2.1)) fun R8 =>
  qlet (qzI I5 R8.2.2.1) fun I9 =>
  qlet (qzR R8 9 64) fun R10 =>
  qlet (qpr R10 a0 5 (some R8.2.2.1)) fun R12 =>
  some (I9, R12)
set_option maxHeartbeats 4000000 in
set_option maxRecDepth 100000 in
theorem eX0_init {R : qR} {I : qI} {a0 : Nat} {rI : qI} {rR : qR} (hW : qWT R) (ha0 : qok R a0 0) (hF : fX0_init R I a0 = some (rI, rR)) : qWT rR ∧ qExt R rR := by
  unfold fX0_init at hF
  obtain ⟨I1, eI1, hF⟩ := qletE hF
  obtain ⟨R2, eR2, hF⟩ := qletE hF
  have hz3 : qok R2 R.2.2.1 9 := qok.z eR2
  have E_1 : qExt R R2 := qExt.z eR2
  have hW_1 : qWT R2 := hW.z eR2
  have ha0_1 : qok R2 a0 0 := ha0.ext E_1
  obtain ⟨R4, eR4, hF⟩ := qletE hF
  have E_2 : qExt R2 R4 := qExt.pr eR4
  have hW_2 : qWT R4 := hW_1.pr ha0_1 hz3 eR4
  have ha0_2 : qok R4 a0 0 := ha0_1.ext E_2
  obtain ⟨I5, eI5, hF⟩ := qletE hF
  obtain ⟨R6, eR6, hF⟩ := qletE hF
  have hz7 : qok R6 R4.2.2.1 9 := qok.z eR6
  have E_3 : qExt R4 R6 := qExt.z eR6
  have hW_3 : qWT R6 := hW_2.z eR6
  have ha0_3 : qok R6 a0 0 := ha0_2.ext E_3
  obtain ⟨R8, eR8, hF⟩ := qletE hF
  have E_4 : qExt R6 R8 := qExt.pr eR8
  have hW_4 : qWT R8 := hW_3.pr ha0_3 hz7 eR8
  have ha0_4 : qok R8 a0 0 := ha0_3.ext E_4
  obtain ⟨I9, eI9, hF⟩ := qletE hF
  obtain ⟨R10, eR10, hF⟩ := qletE hF
  have hz11 : qok R10 R8.2.2.1 9 := qok.z eR10
  have E_5 : qExt R8 R10 := qExt.z eR10
  have hW_5 : qWT R10 := hW_4.z eR10
  have ha0_5 : qok R10 a0 0 := ha0_4.ext E_5
  obtain ⟨R12, eR12, hF⟩ := qletE hF
  have E_6 : qExt R10 R12 := qExt.pr eR12
  have hW_6 : qWT R12 := hW_5.pr ha0_5 hz11 eR12
  have ha0_6 : qok R12 a0 0 := ha0_5.ext E_6
  obtain ⟨rfl, rfl⟩ := qpair hF
  have hX_6 := qX_end hW_6
  have hX_5 := qx_trans E_6 hX_6
  have hX_4 := qx_trans E_5 hX_5
  have hX_3 := qx_trans E_4 hX_4
  have hX_2 := qx_trans E_3 hX_3
  have hX_1 := qx_trans E_2 hX_2
  have hX := qx_trans E_1 hX_1
  exact hX
set_option maxHeartbeats 4000000 in
set_option maxRecDepth 100000 in
theorem sX0_init {l : Launch} {G : qG} {R : qR} {I : qI} {a0 : Nat} {rI : qI} {rR : qR} (hW : qWT R) (ha0 : qok R a0 0) (hF : fX0_init R I a0 = some (rI, rR)) : qMt l G mX0_init 1 [.ref (G.1 + a0)] I R (none) rI rR := by
  unfold fX0_init at hF
  obtain ⟨I1, eI1, hF⟩ := qletE hF
  obtain ⟨R2, eR2, hF⟩ := qletE hF
  have hz3 : qok R2 R.2.2.1 9 := qok.z eR2
  have E_1 : qExt R R2 := qExt.z eR2
  have hW_1 : qWT R2 := hW.z eR2
  have ha0_1 : qok R2 a0 0 := ha0.ext E_1
  obtain ⟨R4, eR4, hF⟩ := qletE hF
  have E_2 : qExt R2 R4 := qExt.pr eR4
  have hW_2 : qWT R4 := hW_1.pr ha0_1 hz3 eR4
  have ha0_2 : qok R4 a0 0 := ha0_1.ext E_2
  obtain ⟨I5, eI5, hF⟩ := qletE hF
  obtain ⟨R6, eR6, hF⟩ := qletE hF
  have hz7 : qok R6 R4.2.2.1 9 := qok.z eR6
  have E_3 : qExt R4 R6 := qExt.z eR6
  have hW_3 : qWT R6 := hW_2.z eR6
  have ha0_3 : qok R6 a0 0 := ha0_2.ext E_3
  obtain ⟨R8, eR8, hF⟩ := qletE hF
  have E_4 : qExt R6 R8 := qExt.pr eR8
  have hW_4 : qWT R8 := hW_3.pr ha0_3 hz7 eR8
  have ha0_4 : qok R8 a0 0 := ha0_3.ext E_4
  obtain ⟨I9, eI9, hF⟩ := qletE hF
  obtain ⟨R10, eR10, hF⟩ := qletE hF
  have hz11 : qok R10 R8.2.2.1 9 := qok.z eR10
  have E_5 : qExt R8 R10 := qExt.z eR10
  have hW_5 : qWT R10 := hW_4.z eR10
  have ha0_5 : qok R10 a0 0 := ha0_4.ext E_5
  obtain ⟨R12, eR12, hF⟩ := qletE hF
  have E_6 : qExt R10 R12 := qExt.pr eR12
  have hW_6 : qWT R12 := hW_5.pr ha0_5 hz11 eR12
  have ha0_6 : qok R12 a0 0 := ha0_5.ext E_6
  obtain ⟨rfl, rfl⟩ := qpair hF
  have hX_6 := qX_end hW_6
  have hX_5 := qx_trans E_6 hX_6
  have hX_4 := qx_trans E_5 hX_5
  have hX_3 := qx_trans E_4 hX_4
  have hX_2 := qx_trans E_3 hX_3
  have hX_1 := qx_trans E_2 hX_2
  have hX := qx_trans E_1 hX_1
  refine qMt_of (by decide) (Nat.le_of_ble_eq_true rfl) ⟨hX.2.1, hX.2.2.1⟩ ?_
  show AW _ 0 [(0, .ref (G.1 + a0))] [] I R
  refine aw_aload_n dX0_init_0 0 rfl rfl ?_
  refine aw_objInit cl_X0_3 cx_oi cx_oc rfl (Nat.le_of_ble_eq_true rfl) (Nat.le_of_ble_eq_true rfl) (Nat.le_of_ble_eq_true rfl) dX0_init_1 ?_
  refine aw_aload_n dX0_init_4 0 rfl rfl ?_
  refine aw_bipush (v := (6 : Int32)) dX0_init_5 (by decide) ?_
  refine aw_newiq (by decide) (by decide) (by decide) eI1 eR2 hX_1.2 dX0_init_7 ?_
  refine aw_putFq fl_X0_9 (by decide) fs_X0_0 fn_X0_0 ft_X0_0 fo_X0 rfl ha0_1 eR4 rfl dX0_init_9 ?_
  refine aw_aload_n dX0_init_12 0 rfl rfl ?_
  refine aw_bipush (v := (6 : Int32)) dX0_init_13 (by decide) ?_
  refine aw_newiq (by decide) (by decide) (by decide) eI5 eR6 hX_3.2 dX0_init_15 ?_
  refine aw_putFq fl_X0_15 (by decide) fs_X0_4 fn_X0_4 ft_X0_4 fo_X0 rfl ha0_3 eR8 rfl dX0_init_17 ?_
  refine aw_aload_n dX0_init_20 0 rfl rfl ?_
  refine aw_bipush (v := (64 : Int32)) dX0_init_21 (by decide) ?_
  refine aw_newiq (by decide) (by decide) (by decide) eI9 eR10 hX_5.2 dX0_init_23 ?_
  refine aw_putFq fl_X0_18 (by decide) fs_X0_5 fn_X0_5 ft_X0_5 fo_X0 rfl ha0_5 eR12 rfl dX0_init_25 ?_
  exact aw_vret rfl dX0_init_28 rfl rfl rfl
def fX1_init (R : qR) (I : qI) (a0 : Nat) : Option (qI × qR) :=
  qlet (qzI I R.2.2.1) fun I1 =>
  qlet (qzR R 9 6) fun R2 =>
  qlet (qpr R2 a0 1 (some R.2.2.1)) fun R4 =>
  qlet (qzI I1 R4.2.2.1) fun I5 =>
  qlet (qzR R4 9 6) fun R6 =>
  qlet (qpr R6 a0 2 (some R4.2.2.1)) fun R8 =>
  some (I5, R8)
set_option maxHeartbeats 4000000 in
set_option maxRecDepth 100000 in
theorem eX1_init {R : qR} {I : qI} {a0 : Nat} {rI : qI} {rR : qR} (hW : qWT R) (ha0 : qok R a0 1) (hF : fX1_init R I a0 = some (rI, rR)) : qWT rR ∧ qExt R rR := by
  unfold fX1_init at hF
  obtain ⟨I1, eI1, hF⟩ := qletE hF
  obtain ⟨R2, eR2, hF⟩ := qletE hF
  have hz3 : qok R2 R.2.2.1 9 := qok.z eR2
  have E_1 : qExt R R2 := qExt.z eR2
  have hW_1 : qWT R2 := hW.z eR2
  have ha0_1 : qok R2 a0 1 := ha0.ext E_1
  obtain ⟨R4, eR4, hF⟩ := qletE hF
  have E_2 : qExt R2 R4 := qExt.pr eR4
  have hW_2 : qWT R4 := hW_1.pr ha0_1 hz3 eR4
  have ha0_2 : qok R4 a0 1 := ha0_1.ext E_2
  obtain ⟨I5, eI5, hF⟩ := qletE hF
  obtain ⟨R6, eR6, hF⟩ := qletE hF
  have hz7 : qok R6 R4.2.2.1 9 := qok.z eR6
  have E_3 : qExt R4 R6 := qExt.z eR6
  have hW_3 : qWT R6 := hW_2.z eR6
  have ha0_3 : qok R6 a0 1 := ha0_2.ext E_3
  obtain ⟨R8, eR8, hF⟩ := qletE hF
  have E_4 : qExt R6 R8 := qExt.pr eR8
  have hW_4 : qWT R8 := hW_3.pr ha0_3 hz7 eR8
  have ha0_4 : qok R8 a0 1 := ha0_3.ext E_4
  obtain ⟨rfl, rfl⟩ := qpair hF
  have hX_4 := qX_end hW_4
  have hX_3 := qx_trans E_4 hX_4
  have hX_2 := qx_trans E_3 hX_3
  have hX_1 := qx_trans E_2 hX_2
  have hX := qx_trans E_1 hX_1
  exact hX
set_option maxHeartbeats 4000000 in
set_option maxRecDepth 100000 in
theorem sX1_init {l : Launch} {G : qG} {R : qR} {I : qI} {a0 : Nat} {rI : qI} {rR : qR} (hW : qWT R) (ha0 : qok R a0 1) (hF : fX1_init R I a0 = some (rI, rR)) : qMt l G mX1_init 1 [.ref (G.1 + a0)] I R (none) rI rR := by
  unfold fX1_init at hF
  obtain ⟨I1, eI1, hF⟩ := qletE hF
  obtain ⟨R2, eR2, hF⟩ := qletE hF
  have hz3 : qok R2 R.2.2.1 9 := qok.z eR2
  have E_1 : qExt R R2 := qExt.z eR2
  have hW_1 : qWT R2 := hW.z eR2
  have ha0_1 : qok R2 a0 1 := ha0.ext E_1
  obtain ⟨R4, eR4, hF⟩ := qletE hF
  have E_2 : qExt R2 R4 := qExt.pr eR4
  have hW_2 : qWT R4 := hW_1.pr ha0_1 hz3 eR4
  have ha0_2 : qok R4 a0 1 := ha0_1.ext E_2
  obtain ⟨I5, eI5, hF⟩ := qletE hF
  obtain ⟨R6, eR6, hF⟩ := qletE hF
  have hz7 : qok R6 R4.2.2.1 9 := qok.z eR6
  have E_3 : qExt R4 R6 := qExt.z eR6
  have hW_3 : qWT R6 := hW_2.z eR6
  have ha0_3 : qok R6 a0 1 := ha0_2.ext E_3
  obtain ⟨R8, eR8, hF⟩ := qletE hF
  have E_4 : qExt R6 R8 := qExt.pr eR8
  have hW_4 : qWT R8 := hW_3.pr ha0_3 hz7 eR8
  have ha0_4 : qok R8 a0 1 := ha0_3.ext E_4
  obtain ⟨rfl, rfl⟩ := qpair hF
  have hX_4 := qX_end hW_4
  have hX_3 := qx_trans E_4 hX_4
  have hX_2 := qx_trans E_3 hX_3
  have hX_1 := qx_trans E_2 hX_2
  have hX := qx_trans E_1 hX_1
  refine qMt_of (by decide) (Nat.le_of_ble_eq_true rfl) ⟨hX.2.1, hX.2.2.1⟩ ?_
  show AW _ 0 [(0, .ref (G.1 + a0))] [] I R
  refine aw_aload_n dX1_init_0 0 rfl rfl ?_
  refine aw_objInit cl_X1_3 cx_oi cx_oc rfl (Nat.le_of_ble_eq_true rfl) (Nat.le_of_ble_eq_true rfl) (Nat.le_of_ble_eq_true rfl) dX1_init_1 ?_
  refine aw_aload_n dX1_init_4 0 rfl rfl ?_
  refine aw_bipush (v := (6 : Int32)) dX1_init_5 (by decide) ?_
  refine aw_newiq (by decide) (by decide) (by decide) eI1 eR2 hX_1.2 dX1_init_7 ?_
  refine aw_putFq fl_X1_9 (by decide) fs_X1_1 fn_X1_1 ft_X1_1 fo_X1 rfl ha0_1 eR4 rfl dX1_init_9 ?_
  refine aw_aload_n dX1_init_12 0 rfl rfl ?_
  refine aw_bipush (v := (6 : Int32)) dX1_init_13 (by decide) ?_
  refine aw_newiq (by decide) (by decide) (by decide) eI5 eR6 hX_3.2 dX1_init_15 ?_
  refine aw_putFq fl_X1_15 (by decide) fs_X1_2 fn_X1_2 ft_X1_2 fo_X1 rfl ha0_3 eR8 rfl dX1_init_17 ?_
  exact aw_vret rfl dX1_init_20 rfl rfl rfl
def fX2_init (R : qR) (I : qI) (a0 : Nat) : Option (qI × qR) :=
  qlet (qzI I R.2.2.1) fun I1 =>
  qlet (qzR R 9 42) fun R2 =>
  qlet (qpr R2 a0 1 (some R.2.2.1)) fun R4 =>
  qlet (qzI I1 R4.2.2.1) fun I5 =>
  qlet (qzR R4 9 48) fun R6 =>
  qlet (qpr R6 a0 5 (some R4.2.2.1)) fun R8 =>
  qlet (qzI I5 R8.2.2.1) fun I9 =>
  qlet (qzR R8 9 48) fun R10 =>
  qlet (qpr R10 a0 6 (some R8.2.2.1)) fun R12 =>
  qlet (qzI I9 R12.2.2.1) fun I13 =>
  qlet (qzR R12 9 960) fun R14 =>
  qlet (qpr R14 a0 7 (some R12.2.2.1)) fun R16 =>
  qlet (qzI I13 R16.2.2.1) fun I17 =>
  qlet (qzR R16 9 8) fun R18 =>
  qlet (qpr R18 a0 8 (some R16.2.2.1)) fun R20 =>
  some (I17, R20)
set_option maxHeartbeats 4000000 in
set_option maxRecDepth 100000 in
theorem eX2_init {R : qR} {I : qI} {a0 : Nat} {rI : qI} {rR : qR} (hW : qWT R) (ha0 : qok R a0 2) (hF : fX2_init R I a0 = some (rI, rR)) : qWT rR ∧ qExt R rR := by
  unfold fX2_init at hF
  obtain ⟨I1, eI1, hF⟩ := qletE hF
  obtain ⟨R2, eR2, hF⟩ := qletE hF
  have hz3 : qok R2 R.2.2.1 9 := qok.z eR2
  have E_1 : qExt R R2 := qExt.z eR2
  have hW_1 : qWT R2 := hW.z eR2
  have ha0_1 : qok R2 a0 2 := ha0.ext E_1
  obtain ⟨R4, eR4, hF⟩ := qletE hF
  have E_2 : qExt R2 R4 := qExt.pr eR4
  have hW_2 : qWT R4 := hW_1.pr ha0_1 hz3 eR4
  have ha0_2 : qok R4 a0 2 := ha0_1.ext E_2
  obtain ⟨I5, eI5, hF⟩ := qletE hF
  obtain ⟨R6, eR6, hF⟩ := qletE hF
  have hz7 : qok R6 R4.2.2.1 9 := qok.z eR6
  have E_3 : qExt R4 R6 := qExt.z eR6
  have hW_3 : qWT R6 := hW_2.z eR6
  have ha0_3 : qok R6 a0 2 := ha0_2.ext E_3
  obtain ⟨R8, eR8, hF⟩ := qletE hF
  have E_4 : qExt R6 R8 := qExt.pr eR8
  have hW_4 : qWT R8 := hW_3.pr ha0_3 hz7 eR8
  have ha0_4 : qok R8 a0 2 := ha0_3.ext E_4
  obtain ⟨I9, eI9, hF⟩ := qletE hF
  obtain ⟨R10, eR10, hF⟩ := qletE hF
  have hz11 : qok R10 R8.2.2.1 9 := qok.z eR10
  have E_5 : qExt R8 R10 := qExt.z eR10
  have hW_5 : qWT R10 := hW_4.z eR10
  have ha0_5 : qok R10 a0 2 := ha0_4.ext E_5
  obtain ⟨R12, eR12, hF⟩ := qletE hF
  have E_6 : qExt R10 R12 := qExt.pr eR12
  have hW_6 : qWT R12 := hW_5.pr ha0_5 hz11 eR12
  have ha0_6 : qok R12 a0 2 := ha0_5.ext E_6
  obtain ⟨I13, eI13, hF⟩ := qletE hF
  obtain ⟨R14, eR14, hF⟩ := qletE hF
  have hz15 : qok R14 R12.2.2.1 9 := qok.z eR14
  have E_7 : qExt R12 R14 := qExt.z eR14
  have hW_7 : qWT R14 := hW_6.z eR14
  have ha0_7 : qok R14 a0 2 := ha0_6.ext E_7
  obtain ⟨R16, eR16, hF⟩ := qletE hF
  have E_8 : qExt R14 R16 := qExt.pr eR16
  have hW_8 : qWT R16 := hW_7.pr ha0_7 hz15 eR16
  have ha0_8 : qok R16 a0 2 := ha0_7.ext E_8
  obtain ⟨I17, eI17, hF⟩ := qletE hF
  obtain ⟨R18, eR18, hF⟩ := qletE hF
  have hz19 : qok R18 R16.2.2.1 9 := qok.z eR18
  have E_9 : qExt R16 R18 := qExt.z eR18
  have hW_9 : qWT R18 := hW_8.z eR18
  have ha0_9 : qok R18 a0 2 := ha0_8.ext E_9
  obtain ⟨R20, eR20, hF⟩ := qletE hF
  have E_10 : qExt R18 R20 := qExt.pr eR20
  have hW_10 : qWT R20 := hW_9.pr ha0_9 hz19 eR20
  have ha0_10 : qok R20 a0 2 := ha0_9.ext E_10
  obtain ⟨rfl, rfl⟩ := qpair hF
  have hX_10 := qX_end hW_10
  have hX_9 := qx_trans E_10 hX_10
  have hX_8 := qx_trans E_9 hX_9
  have hX_7 := qx_trans E_8 hX_8
  have hX_6 := qx_trans E_7 hX_7
  have hX_5 := qx_trans E_6 hX_6
  have hX_4 := qx_trans E_5 hX_5
  have hX_3 := qx_trans E_4 hX_4
  have hX_2 := qx_trans E_3 hX_3
  have hX_1 := qx_trans E_2 hX_2
  have hX := qx_trans E_1 hX_1
  exact hX
set_option maxHeartbeats 4000000 in
set_option maxRecDepth 100000 in
theorem sX2_init {l : Launch} {G : qG} {R : qR} {I : qI} {a0 : Nat} {rI : qI} {rR : qR} (hW : qWT R) (ha0 : qok R a0 2) (hF : fX2_init R I a0 = some (rI, rR)) : qMt l G mX2_init 1 [.ref (G.1 + a0)] I R (none) rI rR := by
  unfold fX2_init at hF
  obtain ⟨I1, eI1, hF⟩ := qletE hF
  obtain ⟨R2, eR2, hF⟩ := qletE hF
  have hz3 : qok R2 R.2.2.1 9 := qok.z eR2
  have E_1 : qExt R R2 := qExt.z eR2
  have hW_1 : qWT R2 := hW.z eR2
  have ha0_1 : qok R2 a0 2 := ha0.ext E_1
  obtain ⟨R4, eR4, hF⟩ := qletE hF
  have E_2 : qExt R2 R4 := qExt.pr eR4
  have hW_2 : qWT R4 := hW_1.pr ha0_1 hz3 eR4
  have ha0_2 : qok R4 a0 2 := ha0_1.ext E_2
  obtain ⟨I5, eI5, hF⟩ := qletE hF
  obtain ⟨R6, eR6, hF⟩ := qletE hF
  have hz7 : qok R6 R4.2.2.1 9 := qok.z eR6
  have E_3 : qExt R4 R6 := qExt.z eR6
  have hW_3 : qWT R6 := hW_2.z eR6
  have ha0_3 : qok R6 a0 2 := ha0_2.ext E_3
  obtain ⟨R8, eR8, hF⟩ := qletE hF
  have E_4 : qExt R6 R8 := qExt.pr eR8
  have hW_4 : qWT R8 := hW_3.pr ha0_3 hz7 eR8
  have ha0_4 : qok R8 a0 2 := ha0_3.ext E_4
  obtain ⟨I9, eI9, hF⟩ := qletE hF
  obtain ⟨R10, eR10, hF⟩ := qletE hF
  have hz11 : qok R10 R8.2.2.1 9 := qok.z eR10
  have E_5 : qExt R8 R10 := qExt.z eR10
  have hW_5 : qWT R10 := hW_4.z eR10
  have ha0_5 : qok R10 a0 2 := ha0_4.ext E_5
  obtain ⟨R12, eR12, hF⟩ := qletE hF
  have E_6 : qExt R10 R12 := qExt.pr eR12
  have hW_6 : qWT R12 := hW_5.pr ha0_5 hz11 eR12
  have ha0_6 : qok R12 a0 2 := ha0_5.ext E_6
  obtain ⟨I13, eI13, hF⟩ := qletE hF
  obtain ⟨R14, eR14, hF⟩ := qletE hF
  have hz15 : qok R14 R12.2.2.1 9 := qok.z eR14
  have E_7 : qExt R12 R14 := qExt.z eR14
  have hW_7 : qWT R14 := hW_6.z eR14
  have ha0_7 : qok R14 a0 2 := ha0_6.ext E_7
  obtain ⟨R16, eR16, hF⟩ := qletE hF
  have E_8 : qExt R14 R16 := qExt.pr eR16
  have hW_8 : qWT R16 := hW_7.pr ha0_7 hz15 eR16
  have ha0_8 : qok R16 a0 2 := ha0_7.ext E_8
  obtain ⟨I17, eI17, hF⟩ := qletE hF
  obtain ⟨R18, eR18, hF⟩ := qletE hF
  have hz19 : qok R18 R16.2.2.1 9 := qok.z eR18
  have E_9 : qExt R16 R18 := qExt.z eR18
  have hW_9 : qWT R18 := hW_8.z eR18
  have ha0_9 : qok R18 a0 2 := ha0_8.ext E_9
  obtain ⟨R20, eR20, hF⟩ := qletE hF
  have E_10 : qExt R18 R20 := qExt.pr eR20
  have hW_10 : qWT R20 := hW_9.pr ha0_9 hz19 eR20
  have ha0_10 : qok R20 a0 2 := ha0_9.ext E_10
  obtain ⟨rfl, rfl⟩ := qpair hF
  have hX_10 := qX_end hW_10
  have hX_9 := qx_trans E_10 hX_10
  have hX_8 := qx_trans E_9 hX_9
  have hX_7 := qx_trans E_8 hX_8
  have hX_6 := qx_trans E_7 hX_7
  have hX_5 := qx_trans E_6 hX_6
  have hX_4 := qx_trans E_5 hX_5
  have hX_3 := qx_trans E_4 hX_4
  have hX_2 := qx_trans E_3 hX_3
  have hX_1 := qx_trans E_2 hX_2
  have hX := qx_trans E_1 hX_1
  refine qMt_of (by decide) (Nat.le_of_ble_eq_true rfl) ⟨hX.2.1, hX.2.2.1⟩ ?_
  show AW _ 0 [(0, .ref (G.1 + a0))] [] I R
  refine aw_aload_n dX2_init_0 0 rfl rfl ?_
  refine aw_objInit cl_X2_5 cx_oi cx_oc rfl (Nat.le_of_ble_eq_true rfl) (Nat.le_of_ble_eq_true rfl) (Nat.le_of_ble_eq_true rfl) dX2_init_1 ?_
  refine aw_aload_n dX2_init_4 0 rfl rfl ?_
  refine aw_bipush (v := (42 : Int32)) dX2_init_5 (by decide) ?_
  refine aw_newiq (by decide) (by decide) (by decide) eI1 eR2 hX_1.2 dX2_init_7 ?_
  refine aw_putFq fl_X2_11 (by decide) fs_X2_1 fn_X2_1 ft_X2_1 fo_X2 rfl ha0_1 eR4 rfl dX2_init_9 ?_
  refine aw_aload_n dX2_init_12 0 rfl rfl ?_
  refine aw_bipush (v := (48 : Int32)) dX2_init_13 (by decide) ?_
  refine aw_newiq (by decide) (by decide) (by decide) eI5 eR6 hX_3.2 dX2_init_15 ?_
  refine aw_putFq fl_X2_15 (by decide) fs_X2_5 fn_X2_5 ft_X2_5 fo_X2 rfl ha0_3 eR8 rfl dX2_init_17 ?_
  refine aw_aload_n dX2_init_20 0 rfl rfl ?_
  refine aw_bipush (v := (48 : Int32)) dX2_init_21 (by decide) ?_
  refine aw_newiq (by decide) (by decide) (by decide) eI9 eR10 hX_5.2 dX2_init_23 ?_
  refine aw_putFq fl_X2_18 (by decide) fs_X2_6 fn_X2_6 ft_X2_6 fo_X2 rfl ha0_5 eR12 rfl dX2_init_25 ?_
  refine aw_aload_n dX2_init_28 0 rfl rfl ?_
  refine aw_sipush (v := (960 : Int32)) dX2_init_29 (by decide) ?_
  refine aw_newiq (by decide) (by decide) (by decide) eI13 eR14 hX_7.2 dX2_init_32 ?_
  refine aw_putFq fl_X2_21 (by decide) fs_X2_7 fn_X2_7 ft_X2_7 fo_X2 rfl ha0_7 eR16 rfl dX2_init_34 ?_
  refine aw_aload_n dX2_init_37 0 rfl rfl ?_
  refine aw_bipush (v := (8 : Int32)) dX2_init_38 (by decide) ?_
  refine aw_newiq (by decide) (by decide) (by decide) eI17 eR18 hX_9.2 dX2_init_40 ?_
  refine aw_putrq fl_X2_24 (by decide) fs_X2_8 fn_X2_8 ft_X2_8 ha0_9 eR20 rfl dX2_init_42 ?_
  exact aw_vret rfl dX2_init_45 rfl rfl rfl
def fX2_openKnown (N : Nat) (R : qR) (I : qI) (a0 : Nat) (p1 : Int32) : Option (qI × qR) :=
  (R.1 a0 8).bind fun r1 =>
  if p1 ≤ (Int32.ofNat (R.2.1 r1).2) then
    (if (I a0 4) < (16777216 : Int32) then
      (qlet (qup I a0 4 ((I a0 4) + (1 : Int32))) fun I4 =>
      some (I4, R))
    else
      ((fJ7_fill_53178 N R I r1 (0 : Int32)).bind fun y5 =>
      qlet (qup y5 a0 4 (0 : Int32)) fun I6 =>
      qlet (qup I6 a0 4 ((I6 a0 4) + (1 : Int32))) fun I7 =>
      some (I7, R)))
  else
    ((qnn p1).bind fun n8 =>
    qlet (qzI I R.2.2.1) fun I9 =>
    qlet (qzR R 9 n8) fun R10 =>
    qlet (qpr R10 a0 8 (some R.2.2.1)) fun R12 =>
    if (I9 a0 4) < (16777216 : Int32) then
      (qlet (qup I9 a0 4 ((I9 a0 4) + (1 : Int32))) fun I14 =>
      some (I14, R12))
    else
      ((R12.1 a0 8).bind fun r15 =>
      (fJ7_fill_53178 N R12 I9 r15 (0 : Int32)).bind fun y16 =>
      qlet (qup y16 a0 4 (0 : Int32)) fun I17 =>
      qlet (qup I17 a0 4 ((I17 a0 4) + (1 : Int32))) fun I18 =>
      some (I18, R12)))
set_option maxHeartbeats 4000000 in
set_option maxRecDepth 100000 in
theorem eX2_openKnown {N : Nat} {R : qR} {I : qI} {a0 : Nat} {p1 : Int32} {rI : qI} {rR : qR} (hW : qWT R) (ha0 : qok R a0 2) (hF : fX2_openKnown N R I a0 p1 = some (rI, rR)) : qWT rR ∧ qExt R rR := by
  unfold fX2_openKnown at hF
  obtain ⟨r1, er1, hF⟩ := qbind hF
  have kr1 : qok R r1 9 := hW.get ha0 er1 rfl
  by_cases c2 : p1 ≤ (Int32.ofNat (R.2.1 r1).2)
  · rw [if_pos c2] at hF
    by_cases c3 : (I a0 4) < (16777216 : Int32)
    · rw [if_pos c3] at hF
      obtain ⟨I4, eI4, hF⟩ := qletE hF
      cases hF
      exact ⟨hW, qExt.rf⟩
    · rw [if_neg c3] at hF
      obtain ⟨y5, ey5, hF⟩ := qbind hF
      obtain ⟨I6, eI6, hF⟩ := qletE hF
      obtain ⟨I7, eI7, hF⟩ := qletE hF
      cases hF
      exact ⟨hW, qExt.rf⟩
  · rw [if_neg c2] at hF
    obtain ⟨n8, en8, hF⟩ := qbind hF
    obtain ⟨I9, eI9, hF⟩ := qletE hF
    obtain ⟨R10, eR10, hF⟩ := qletE hF
    have hz11 : qok R10 R.2.2.1 9 := qok.z eR10
    have E : qExt R R10 := qExt.z eR10
    have hW : qWT R10 := hW.z eR10
    have ha0 : qok R10 a0 2 := ha0.ext E
    refine qx_trans E ?_
    obtain ⟨R12, eR12, hF⟩ := qletE hF
    have E : qExt R10 R12 := qExt.pr eR12
    have hW : qWT R12 := hW.pr ha0 hz11 eR12
    have ha0 : qok R12 a0 2 := ha0.ext E
    refine qx_trans E ?_
    by_cases c13 : (I9 a0 4) < (16777216 : Int32)
    · rw [if_pos c13] at hF
      obtain ⟨I14, eI14, hF⟩ := qletE hF
      cases hF
      exact ⟨hW, qExt.rf⟩
    · rw [if_neg c13] at hF
      obtain ⟨r15, er15, hF⟩ := qbind hF
      have kr15 : qok R12 r15 9 := hW.get ha0 er15 rfl
      obtain ⟨y16, ey16, hF⟩ := qbind hF
      obtain ⟨I17, eI17, hF⟩ := qletE hF
      obtain ⟨I18, eI18, hF⟩ := qletE hF
      cases hF
      exact ⟨hW, qExt.rf⟩
set_option maxHeartbeats 4000000 in
set_option maxRecDepth 100000 in
theorem sX2_openKnown {l : Launch} {G : qG} {N : Nat} {R : qR} {I : qI} {a0 : Nat} {p1 : Int32} {rI : qI} {rR : qR} (hW : qWT R) (ha0 : qok R a0 2) (hF : fX2_openKnown N R I a0 p1 = some (rI, rR)) : qMt l G mX2_openKnown 2 [.ref (G.1 + a0), .int p1] I R (none) rI rR := by
  have hX := eX2_openKnown hW ha0 hF
  unfold fX2_openKnown at hF
  refine qMt_of (by decide) (Nat.le_of_ble_eq_true rfl) ⟨hX.2.1, hX.2.2.1⟩ ?_
  show AW _ 0 [(0, .ref (G.1 + a0)), (1, .int p1)] [] I R
  refine aw_aload_n dX2_openKnown_0 0 rfl rfl ?_
  obtain ⟨r1, er1, hF⟩ := qbind hF
  have kr1 : qok R r1 9 := hW.get ha0 er1 rfl
  refine aw_getr fl_X2_24 (by decide) fg_X2_8 ha0 er1 rfl dX2_openKnown_1 ?_
  refine aw_alen kr1 (Or.inl rfl) rfl dX2_openKnown_4 ?_
  refine aw_iload_n dX2_openKnown_5 1 rfl rfl ?_
  refine aw_icmp_ge (tgt := 16) dX2_openKnown_6 (by decide) (fun c2 => ?_) (fun c2 => ?_)
  · rw [if_pos c2] at hF
    refine aw_aload_n dX2_openKnown_16 0 rfl rfl ?_
    refine aw_geti fl_X2_85 (by decide) fg_X2_4 ha0 rfl dX2_openKnown_17 ?_
    refine aw_ldc ck_X2_88 rfl dX2_openKnown_20 ?_
    refine aw_icmp_lt (tgt := 38) dX2_openKnown_22 (by decide) (fun c3 => ?_) (fun c3 => ?_)
    · rw [if_pos c3] at hF
      refine aw_aload_n dX2_openKnown_38 0 rfl rfl ?_
      refine aw_dup dX2_openKnown_39 rfl ?_
      refine aw_geti fl_X2_85 (by decide) fg_X2_4 ha0 rfl dX2_openKnown_40 ?_
      refine aw_iconst (v := (1 : Int32)) dX2_openKnown_43 (by decide) ?_
      refine aw_iadd dX2_openKnown_44 ?_
      obtain ⟨I4, eI4, hF⟩ := qletE hF
      refine aw_putiq fl_X2_85 (by decide) fs_X2_4 fn_X2_4 ft_X2_4 ha0 eI4 rfl dX2_openKnown_45 ?_
      cases hF
      exact aw_vret rfl dX2_openKnown_48 rfl rfl rfl
    · rw [if_neg c3] at hF
      refine aw_aload_n dX2_openKnown_25 0 rfl rfl ?_
      refine aw_getr fl_X2_24 (by decide) fg_X2_8 ha0 er1 rfl dX2_openKnown_26 ?_
      refine aw_iconst (v := (0 : Int32)) dX2_openKnown_29 (by decide) ?_
      obtain ⟨y5, ey5, hF⟩ := qbind hF
      refine aw_callSv (sJ7_fill_53178 hW kr1 ey5) cl_X2_89 rfl (qroomH (by decide) (by decide) hX.2) rfl (Nat.le_of_ble_eq_true rfl) dX2_openKnown_30 rfl ?_
      refine aw_aload_n dX2_openKnown_33 0 rfl rfl ?_
      refine aw_iconst (v := (0 : Int32)) dX2_openKnown_34 (by decide) ?_
      obtain ⟨I6, eI6, hF⟩ := qletE hF
      refine aw_putiq fl_X2_85 (by decide) fs_X2_4 fn_X2_4 ft_X2_4 ha0 eI6 rfl dX2_openKnown_35 ?_
      refine aw_aload_n dX2_openKnown_38 0 rfl rfl ?_
      refine aw_dup dX2_openKnown_39 rfl ?_
      refine aw_geti fl_X2_85 (by decide) fg_X2_4 ha0 rfl dX2_openKnown_40 ?_
      refine aw_iconst (v := (1 : Int32)) dX2_openKnown_43 (by decide) ?_
      refine aw_iadd dX2_openKnown_44 ?_
      obtain ⟨I7, eI7, hF⟩ := qletE hF
      refine aw_putiq fl_X2_85 (by decide) fs_X2_4 fn_X2_4 ft_X2_4 ha0 eI7 rfl dX2_openKnown_45 ?_
      cases hF
      exact aw_vret rfl dX2_openKnown_48 rfl rfl rfl
  · rw [if_neg c2] at hF
    refine aw_aload_n dX2_openKnown_9 0 rfl rfl ?_
    refine aw_iload_n dX2_openKnown_10 1 rfl rfl ?_
    obtain ⟨n8, en8, hF⟩ := qbind hF
    obtain ⟨I9, eI9, hF⟩ := qletE hF
    obtain ⟨R10, eR10, hF⟩ := qletE hF
    have hz11 : qok R10 R.2.2.1 9 := qok.z eR10
    have E : qExt R R10 := qExt.z eR10
    have hW : qWT R10 := hW.z eR10
    have ha0 : qok R10 a0 2 := ha0.ext E
    have hX : qWT rR ∧ qExt R10 rR := by
      obtain ⟨R12, eR12, hF⟩ := qletE hF
      have E : qExt R10 R12 := qExt.pr eR12
      have hW : qWT R12 := hW.pr ha0 hz11 eR12
      have ha0 : qok R12 a0 2 := ha0.ext E
      refine qx_trans E ?_
      by_cases c13 : (I9 a0 4) < (16777216 : Int32)
      · rw [if_pos c13] at hF
        obtain ⟨I14, eI14, hF⟩ := qletE hF
        cases hF
        exact ⟨hW, qExt.rf⟩
      · rw [if_neg c13] at hF
        obtain ⟨r15, er15, hF⟩ := qbind hF
        have kr15 : qok R12 r15 9 := hW.get ha0 er15 rfl
        obtain ⟨y16, ey16, hF⟩ := qbind hF
        obtain ⟨I17, eI17, hF⟩ := qletE hF
        obtain ⟨I18, eI18, hF⟩ := qletE hF
        cases hF
        exact ⟨hW, qExt.rf⟩
    refine aw_newiq (qnn_some en8).1 (qnn_some en8).2.1 (qnn_some en8).2.2 eI9 eR10 hX.2 dX2_openKnown_11 ?_
    obtain ⟨R12, eR12, hF⟩ := qletE hF
    refine aw_putrq fl_X2_24 (by decide) fs_X2_8 fn_X2_8 ft_X2_8 ha0 eR12 rfl dX2_openKnown_13 ?_
    have E : qExt R10 R12 := qExt.pr eR12
    have hW : qWT R12 := hW.pr ha0 hz11 eR12
    have ha0 : qok R12 a0 2 := ha0.ext E
    have hX : qWT rR ∧ qExt R12 rR := by
      by_cases c13 : (I9 a0 4) < (16777216 : Int32)
      · rw [if_pos c13] at hF
        obtain ⟨I14, eI14, hF⟩ := qletE hF
        cases hF
        exact ⟨hW, qExt.rf⟩
      · rw [if_neg c13] at hF
        obtain ⟨r15, er15, hF⟩ := qbind hF
        have kr15 : qok R12 r15 9 := hW.get ha0 er15 rfl
        obtain ⟨y16, ey16, hF⟩ := qbind hF
        obtain ⟨I17, eI17, hF⟩ := qletE hF
        obtain ⟨I18, eI18, hF⟩ := qletE hF
        cases hF
        exact ⟨hW, qExt.rf⟩
    refine aw_aload_n dX2_openKnown_16 0 rfl rfl ?_
    refine aw_geti fl_X2_85 (by decide) fg_X2_4 ha0 rfl dX2_openKnown_17 ?_
    refine aw_ldc ck_X2_88 rfl dX2_openKnown_20 ?_
    refine aw_icmp_lt (tgt := 38) dX2_openKnown_22 (by decide) (fun c13 => ?_) (fun c13 => ?_)
    · rw [if_pos c13] at hF
      refine aw_aload_n dX2_openKnown_38 0 rfl rfl ?_
      refine aw_dup dX2_openKnown_39 rfl ?_
      refine aw_geti fl_X2_85 (by decide) fg_X2_4 ha0 rfl dX2_openKnown_40 ?_
      refine aw_iconst (v := (1 : Int32)) dX2_openKnown_43 (by decide) ?_
      refine aw_iadd dX2_openKnown_44 ?_
      obtain ⟨I14, eI14, hF⟩ := qletE hF
      refine aw_putiq fl_X2_85 (by decide) fs_X2_4 fn_X2_4 ft_X2_4 ha0 eI14 rfl dX2_openKnown_45 ?_
      cases hF
      exact aw_vret rfl dX2_openKnown_48 rfl rfl rfl
    · rw [if_neg c13] at hF
      refine aw_aload_n dX2_openKnown_25 0 rfl rfl ?_
      obtain ⟨r15, er15, hF⟩ := qbind hF
      have kr15 : qok R12 r15 9 := hW.get ha0 er15 rfl
      refine aw_getr fl_X2_24 (by decide) fg_X2_8 ha0 er15 rfl dX2_openKnown_26 ?_
      refine aw_iconst (v := (0 : Int32)) dX2_openKnown_29 (by decide) ?_
      obtain ⟨y16, ey16, hF⟩ := qbind hF
      refine aw_callSv (sJ7_fill_53178 hW kr15 ey16) cl_X2_89 rfl (qroomH (by decide) (by decide) hX.2) rfl (Nat.le_of_ble_eq_true rfl) dX2_openKnown_30 rfl ?_
      refine aw_aload_n dX2_openKnown_33 0 rfl rfl ?_
      refine aw_iconst (v := (0 : Int32)) dX2_openKnown_34 (by decide) ?_
      obtain ⟨I17, eI17, hF⟩ := qletE hF
      refine aw_putiq fl_X2_85 (by decide) fs_X2_4 fn_X2_4 ft_X2_4 ha0 eI17 rfl dX2_openKnown_35 ?_
      refine aw_aload_n dX2_openKnown_38 0 rfl rfl ?_
      refine aw_dup dX2_openKnown_39 rfl ?_
      refine aw_geti fl_X2_85 (by decide) fg_X2_4 ha0 rfl dX2_openKnown_40 ?_
      refine aw_iconst (v := (1 : Int32)) dX2_openKnown_43 (by decide) ?_
      refine aw_iadd dX2_openKnown_44 ?_
      obtain ⟨I18, eI18, hF⟩ := qletE hF
      refine aw_putiq fl_X2_85 (by decide) fs_X2_4 fn_X2_4 ft_X2_4 ha0 eI18 rfl dX2_openKnown_45 ?_
      cases hF
      exact aw_vret rfl dX2_openKnown_48 rfl rfl rfl
