def cX4_make_23 (N : Nat) (R : qR) (b0 : Nat) (v3 : Int32) (I : qI) : Option ((Int32 × qI) ⊕ (qI)) :=
  if (I b0 6) ≤ v3 then
    (some (.inr I))
  else
    ((fX4_placeStops N R I b0 v3).bind fun y6 =>
    some (.inl ((v3 + 1), y6)))
set_option maxHeartbeats 4000000 in
set_option maxRecDepth 100000 in
theorem tX4_make_23 {l : Launch} {G : qG} {N : Nat} {R0 R1 : qR} {R : qR} {As : List Value} {rv : Option Value} {I1 : qI} {b0 : Nat} (hW : qWT R) (hX : qWT R1 ∧ qExt R R1) (hb0 : qok R b0 4) {o : qI} (hx : AW (Zm l G mX4_make 56 As R0 rv I1 R1) 42 [(0, .ref (G.1 + b0))] [] o R) : ∀ n s, qloop (fun s => cX4_make_23 N R b0 s.1 s.2) n s = some o → (match s with | (v3, I) => AW (Zm l G mX4_make 56 As R0 rv I1 R1) 23 [(0, .ref (G.1 + b0)), (3, .int v3)] [] I R) := by
  apply qloop_ind
  intro s x hF hc he
  obtain ⟨v3, I⟩ := s
  change cX4_make_23 N R b0 v3 I = some x at hF
  unfold cX4_make_23 at hF
  show AW _ 23 [(0, .ref (G.1 + b0)), (3, .int v3)] [] I R
  refine aw_iload_n dX4_make_23 1 rfl rfl ?_
  refine aw_aload_n dX4_make_24 0 rfl rfl ?_
  refine aw_geti fl_X4_50 (by decide) fg_X4_6 hb0 rfl dX4_make_25 ?_
  refine aw_icmp_ge (tgt := 42) dX4_make_28 (by decide) (fun c5 => ?_) (fun c5 => ?_)
  · rw [if_pos c5] at hF
    cases hF
    have hE := he _ rfl
    subst hE
    exact aw_sub [0] rfl hx
  · rw [if_neg c5] at hF
    refine aw_aload_n dX4_make_31 0 rfl rfl ?_
    refine aw_iload_n dX4_make_32 1 rfl rfl ?_
    obtain ⟨y6, ey6, hF⟩ := qbind hF
    refine aw_callVv (As := [.int v3]) (sX4_placeStops hW hb0 ey6) cl_X4_57 rfl (qroomH (by decide) (by decide) hX.2) rfl hb0 (Nat.le_of_ble_eq_true rfl) dX4_make_33 rfl ?_
    refine aw_iinc (q := 1) (v := (v3 + 1)) (lv' := [(3, .int (v3 + 1)), (0, .ref (G.1 + b0))]) dX4_make_36 rfl rfl (Nat.le_of_ble_eq_true rfl) rfl ?_
    refine aw_goto (tgt := 23) dX4_make_39 (by decide) ?_
    cases hF
    exact aw_sub [1, 0] rfl (hc ((v3 + 1), y6) rfl)
def fX4_make (N : Nat) (R : qR) (I : qI) (a0 : Nat) (a1 : Nat) (p2 : Int32) : Option (qI × qR) :=
  (fX4_takeMembers N R I a0 a1 p2).bind fun y1 =>
  (R.1 a0 3).bind fun r2 =>
  (R.1 a0 0).bind fun r3 =>
  (fX2_search N R y1 r2 r3 (y1 a0 6)).bind fun y4 =>
  (qloop (fun s => cX4_make_23 N y4.2 a0 s.1 s.2) N ((0 : Int32), y4.1)).bind fun o7 =>
  (y4.2.1 a0 4).bind fun r8 =>
  (y4.2.1 a0 0).bind fun r9 =>
  (fX0_arrange N y4.2 o7 r8 r9 (o7 a0 6)).bind fun y10 =>
  (fX4_planLanes N y4.2 y10 a0).bind fun y11 =>
  some (y11, y4.2)
set_option maxHeartbeats 4000000 in
set_option maxRecDepth 100000 in
theorem eX4_make {N : Nat} {R : qR} {I : qI} {a0 : Nat} {a1 : Nat} {p2 : Int32} {rI : qI} {rR : qR} (hW : qWT R) (ha0 : qok R a0 4) (ha1 : qok R a1 11) (hF : fX4_make N R I a0 a1 p2 = some (rI, rR)) : qWT rR ∧ qExt R rR := by
  unfold fX4_make at hF
  obtain ⟨y1, ey1, hF⟩ := qbind hF
  obtain ⟨r2, er2, hF⟩ := qbind hF
  have kr2 : qok R r2 2 := hW.get ha0 er2 rfl
  obtain ⟨r3, er3, hF⟩ := qbind hF
  have kr3 : qok R r3 11 := hW.get ha0 er3 rfl
  obtain ⟨y4, ey4, hF⟩ := qbind hF
  have eX := eX2_search hW kr2 kr3 ey4
  have E : qExt R y4.2 := eX.2
  have hW : qWT y4.2 := eX.1
  have ha0 : qok y4.2 a0 4 := ha0.ext E
  have ha1 : qok y4.2 a1 11 := ha1.ext E
  refine qx_trans E ?_
  obtain ⟨o7, eo7, hF⟩ := qbind hF
  obtain ⟨r8, er8, hF⟩ := qbind hF
  have kr8 : qok y4.2 r8 0 := hW.get ha0 er8 rfl
  obtain ⟨r9, er9, hF⟩ := qbind hF
  have kr9 : qok y4.2 r9 11 := hW.get ha0 er9 rfl
  obtain ⟨y10, ey10, hF⟩ := qbind hF
  obtain ⟨y11, ey11, hF⟩ := qbind hF
  cases hF
  exact ⟨hW, qExt.rf⟩
set_option maxHeartbeats 4000000 in
set_option maxRecDepth 100000 in
theorem sX4_make {l : Launch} {G : qG} {N : Nat} {R : qR} {I : qI} {a0 : Nat} {a1 : Nat} {p2 : Int32} {rI : qI} {rR : qR} (hW : qWT R) (ha0 : qok R a0 4) (ha1 : qok R a1 11) (hF : fX4_make N R I a0 a1 p2 = some (rI, rR)) : qMt l G mX4_make 56 [.ref (G.1 + a0), .ref (G.1 + a1), .int p2] I R (none) rI rR := by
  have hX := eX4_make hW ha0 ha1 hF
  unfold fX4_make at hF
  refine qMt_of (by decide) (Nat.le_of_ble_eq_true rfl) ⟨hX.2.1, hX.2.2.1⟩ ?_
  show AW _ 0 [(0, .ref (G.1 + a0)), (1, .ref (G.1 + a1)), (2, .int p2)] [] I R
  refine aw_aload_n dX4_make_0 0 rfl rfl ?_
  refine aw_aload_n dX4_make_1 1 rfl rfl ?_
  refine aw_iload_n dX4_make_2 2 rfl rfl ?_
  obtain ⟨y1, ey1, hF⟩ := qbind hF
  refine aw_callVv (As := [.ref (G.1 + a1), .int p2]) (sX4_takeMembers hW ha0 ha1 ey1) cl_X4_46 rfl (qroomH (by decide) (by decide) hX.2) rfl ha0 (Nat.le_of_ble_eq_true rfl) dX4_make_3 rfl ?_
  refine aw_aload_n dX4_make_6 0 rfl rfl ?_
  obtain ⟨r2, er2, hF⟩ := qbind hF
  have kr2 : qok R r2 2 := hW.get ha0 er2 rfl
  refine aw_getr fl_X4_27 (by decide) fg_X4_3 ha0 er2 rfl dX4_make_7 ?_
  refine aw_aload_n dX4_make_10 0 rfl rfl ?_
  obtain ⟨r3, er3, hF⟩ := qbind hF
  have kr3 : qok R r3 11 := hW.get ha0 er3 rfl
  refine aw_getr fl_X4_11 (by decide) fg_X4_0 ha0 er3 rfl dX4_make_11 ?_
  refine aw_aload_n dX4_make_14 0 rfl rfl ?_
  refine aw_geti fl_X4_50 (by decide) fg_X4_6 ha0 rfl dX4_make_15 ?_
  obtain ⟨y4, ey4, hF⟩ := qbind hF
  have eX := eX2_search hW kr2 kr3 ey4
  have hM := fun {l : Launch} {G : qG} => sX2_search (l := l) (G := G) hW kr2 kr3 ey4
  have hrec0 := kr2
  have E : qExt R y4.2 := eX.2
  have hW : qWT y4.2 := eX.1
  have ha0 : qok y4.2 a0 4 := ha0.ext E
  have ha1 : qok y4.2 a1 11 := ha1.ext E
  have hX : qWT rR ∧ qExt y4.2 rR := by
    obtain ⟨o7, eo7, hF⟩ := qbind hF
    obtain ⟨r8, er8, hF⟩ := qbind hF
    have kr8 : qok y4.2 r8 0 := hW.get ha0 er8 rfl
    obtain ⟨r9, er9, hF⟩ := qbind hF
    have kr9 : qok y4.2 r9 11 := hW.get ha0 er9 rfl
    obtain ⟨y10, ey10, hF⟩ := qbind hF
    obtain ⟨y11, ey11, hF⟩ := qbind hF
    cases hF
    exact ⟨hW, qExt.rf⟩
  refine aw_callVv (As := [.ref (G.1 + r3), .int (y1 a0 6)]) hM cl_X4_54 rfl (qroomH (by decide) (by decide) hX.2) rfl hrec0 (Nat.le_of_ble_eq_true rfl) dX4_make_18 rfl ?_
  refine aw_iconst (v := (0 : Int32)) dX4_make_21 (by decide) ?_
  refine aw_istore_n (lv' := [(3, .int (0 : Int32)), (0, .ref (G.1 + a0)), (1, .ref (G.1 + a1)), (2, .int p2)]) dX4_make_22 rfl (Nat.le_of_ble_eq_true rfl) rfl ?_
  obtain ⟨o7, eo7, hF⟩ := qbind hF
  refine aw_sub [1, 0] rfl (tX4_make_23 hW hX ha0 (o := o7) ?_ N ((0 : Int32), y4.1) eo7)
  show AW _ 42 [(0, .ref (G.1 + a0))] [] o7 y4.2
  refine aw_aload_n dX4_make_42 0 rfl rfl ?_
  obtain ⟨r8, er8, hF⟩ := qbind hF
  have kr8 : qok y4.2 r8 0 := hW.get ha0 er8 rfl
  refine aw_getr fl_X4_34 (by decide) fg_X4_4 ha0 er8 rfl dX4_make_43 ?_
  refine aw_aload_n dX4_make_46 0 rfl rfl ?_
  obtain ⟨r9, er9, hF⟩ := qbind hF
  have kr9 : qok y4.2 r9 11 := hW.get ha0 er9 rfl
  refine aw_getr fl_X4_11 (by decide) fg_X4_0 ha0 er9 rfl dX4_make_47 ?_
  refine aw_aload_n dX4_make_50 0 rfl rfl ?_
  refine aw_geti fl_X4_50 (by decide) fg_X4_6 ha0 rfl dX4_make_51 ?_
  obtain ⟨y10, ey10, hF⟩ := qbind hF
  refine aw_callVv (As := [.ref (G.1 + r9), .int (o7 a0 6)]) (sX0_arrange hW kr8 kr9 ey10) cl_X4_61 rfl (qroomH (by decide) (by decide) hX.2) rfl kr8 (Nat.le_of_ble_eq_true rfl) dX4_make_54 rfl ?_
  refine aw_aload_n dX4_make_57 0 rfl rfl ?_
  obtain ⟨y11, ey11, hF⟩ := qbind hF
  refine aw_callVv (As := []) (sX4_planLanes hW ha0 ey11) cl_X4_64 rfl (qroomH (by decide) (by decide) hX.2) rfl ha0 (Nat.le_of_ble_eq_true rfl) dX4_make_58 rfl ?_
  cases hF
  exact aw_vret rfl dX4_make_61 rfl rfl rfl
def fX6_init (R : qR) (I : qI) (a0 : Nat) : Option (qI × qR) :=
  qlet (qzI I R.2.2.1) fun I1 =>
  qlet (qzR R 11 0) fun R2 =>
  qlet (qpr R2 a0 0 (some R.2.2.1)) fun R4 =>
  qlet (qzI I1 R4.2.2.1) fun I5 =>
  qlet (qzR R4 9 12) fun R6 =>
  qlet (qpr R6 a0 4 (some R4.2.2.1)) fun R8 =>
  qlet (qzI I5 R8.2.2.1) fun I9 =>
  qlet (qzR R8 9 100) fun R10 =>
  qlet (qpr R10 a0 5 (some R8.2.2.1)) fun R12 =>
  qlet (qzI I9 R12.2.2.1) fun I13 =>
  qlet (qzR R12 9 10) fun R14 =>
  qlet (qpr R14 a0 8 (some R12.2.2.1)) fun R16 =>
  qlet (qzI I13 R16.2.2.1) fun I17 =>
  qlet (qzR R16 9 10) fun R18 =>
  qlet (qpr R18 a0 9 (some R16.2.2.1)) fun R20 =>
  qlet (qzI I17 R20.2.2.1) fun I21 =>
  qlet (qzR R20 9 10) fun R22 =>
  qlet (qpr R22 a0 10 (some R20.2.2.1)) fun R24 =>
  qlet (qzI I21 R24.2.2.1) fun I25 =>
  qlet (qzR R24 9 10) fun R26 =>
  qlet (qpr R26 a0 11 (some R24.2.2.1)) fun R28 =>
  qlet (qzI I25 R28.2.2.1) fun I29 =>
  qlet (qzR R28 9 10) fun R30 =>
  qlet (qpr R30 a0 12 (some R28.2.2.1)) fun R32 =>
  qlet (qzI I29 R32.2.2.1) fun I33 =>
  qlet (qzR R32 9 10) fun R34 =>
  qlet (qpr R34 a0 14 (some R32.2.2.1)) fun R36 =>
  some (I33, R36)
set_option maxHeartbeats 4000000 in
set_option maxRecDepth 100000 in
theorem eX6_init {R : qR} {I : qI} {a0 : Nat} {rI : qI} {rR : qR} (hW : qWT R) (ha0 : qok R a0 6) (hF : fX6_init R I a0 = some (rI, rR)) : qWT rR ∧ qExt R rR := by
  unfold fX6_init at hF
  obtain ⟨I1, eI1, hF⟩ := qletE hF
  obtain ⟨R2, eR2, hF⟩ := qletE hF
  have hz3 : qok R2 R.2.2.1 11 := qok.z eR2
  have E_1 : qExt R R2 := qExt.z eR2
  have hW_1 : qWT R2 := hW.z eR2
  have ha0_1 : qok R2 a0 6 := ha0.ext E_1
  obtain ⟨R4, eR4, hF⟩ := qletE hF
  have E_2 : qExt R2 R4 := qExt.pr eR4
  have hW_2 : qWT R4 := hW_1.pr ha0_1 hz3 eR4
  have ha0_2 : qok R4 a0 6 := ha0_1.ext E_2
  obtain ⟨I5, eI5, hF⟩ := qletE hF
  obtain ⟨R6, eR6, hF⟩ := qletE hF
  have hz7 : qok R6 R4.2.2.1 9 := qok.z eR6
  have E_3 : qExt R4 R6 := qExt.z eR6
  have hW_3 : qWT R6 := hW_2.z eR6
  have ha0_3 : qok R6 a0 6 := ha0_2.ext E_3
  obtain ⟨R8, eR8, hF⟩ := qletE hF
  have E_4 : qExt R6 R8 := qExt.pr eR8
  have hW_4 : qWT R8 := hW_3.pr ha0_3 hz7 eR8
  have ha0_4 : qok R8 a0 6 := ha0_3.ext E_4
  obtain ⟨I9, eI9, hF⟩ := qletE hF
  obtain ⟨R10, eR10, hF⟩ := qletE hF
  have hz11 : qok R10 R8.2.2.1 9 := qok.z eR10
  have E_5 : qExt R8 R10 := qExt.z eR10
  have hW_5 : qWT R10 := hW_4.z eR10
  have ha0_5 : qok R10 a0 6 := ha0_4.ext E_5
  obtain ⟨R12, eR12, hF⟩ := qletE hF
  have E_6 : qExt R10 R12 := qExt.pr eR12
  have hW_6 : qWT R12 := hW_5.pr ha0_5 hz11 eR12
  have ha0_6 : qok R12 a0 6 := ha0_5.ext E_6
  obtain ⟨I13, eI13, hF⟩ := qletE hF
  obtain ⟨R14, eR14, hF⟩ := qletE hF
  have hz15 : qok R14 R12.2.2.1 9 := qok.z eR14
  have E_7 : qExt R12 R14 := qExt.z eR14
  have hW_7 : qWT R14 := hW_6.z eR14
  have ha0_7 : qok R14 a0 6 := ha0_6.ext E_7
  obtain ⟨R16, eR16, hF⟩ := qletE hF
  have E_8 : qExt R14 R16 := qExt.pr eR16
  have hW_8 : qWT R16 := hW_7.pr ha0_7 hz15 eR16
  have ha0_8 : qok R16 a0 6 := ha0_7.ext E_8
  obtain ⟨I17, eI17, hF⟩ := qletE hF
  obtain ⟨R18, eR18, hF⟩ := qletE hF
  have hz19 : qok R18 R16.2.2.1 9 := qok.z eR18
  have E_9 : qExt R16 R18 := qExt.z eR18
  have hW_9 : qWT R18 := hW_8.z eR18
  have ha0_9 : qok R18 a0 6 := ha0_8.ext E_9
  obtain ⟨R20, eR20, hF⟩ := qletE hF
  have E_10 : qExt R18 R20 := qExt.pr eR20
  have hW_10 : qWT R20 := hW_9.pr ha0_9 hz19 eR20
  have ha0_10 : qok R20 a0 6 := ha0_9.ext E_10
  obtain ⟨I21, eI21, hF⟩ := qletE hF
  obtain ⟨R22, eR22, hF⟩ := qletE hF
  have hz23 : qok R22 R20.2.2.1 9 := qok.z eR22
  have E_11 : qExt R20 R22 := qExt.z eR22
  have hW_11 : qWT R22 := hW_10.z eR22
  have ha0_11 : qok R22 a0 6 := ha0_10.ext E_11
  obtain ⟨R24, eR24, hF⟩ := qletE hF
  have E_12 : qExt R22 R24 := qExt.pr eR24
  have hW_12 : qWT R24 := hW_11.pr ha0_11 hz23 eR24
  have ha0_12 : qok R24 a0 6 := ha0_11.ext E_12
  obtain ⟨I25, eI25, hF⟩ := qletE hF
  obtain ⟨R26, eR26, hF⟩ := qletE hF
  have hz27 : qok R26 R24.2.2.1 9 := qok.z eR26
  have E_13 : qExt R24 R26 := qExt.z eR26
  have hW_13 : qWT R26 := hW_12.z eR26
  have ha0_13 : qok R26 a0 6 := ha0_12.ext E_13
  obtain ⟨R28, eR28, hF⟩ := qletE hF
  have E_14 : qExt R26 R28 := qExt.pr eR28
  have hW_14 : qWT R28 := hW_13.pr ha0_13 hz27 eR28
  have ha0_14 : qok R28 a0 6 := ha0_13.ext E_14
  obtain ⟨I29, eI29, hF⟩ := qletE hF
  obtain ⟨R30, eR30, hF⟩ := qletE hF
  have hz31 : qok R30 R28.2.2.1 9 := qok.z eR30
  have E_15 : qExt R28 R30 := qExt.z eR30
  have hW_15 : qWT R30 := hW_14.z eR30
  have ha0_15 : qok R30 a0 6 := ha0_14.ext E_15
  obtain ⟨R32, eR32, hF⟩ := qletE hF
  have E_16 : qExt R30 R32 := qExt.pr eR32
  have hW_16 : qWT R32 := hW_15.pr ha0_15 hz31 eR32
  have ha0_16 : qok R32 a0 6 := ha0_15.ext E_16
  obtain ⟨I33, eI33, hF⟩ := qletE hF
  obtain ⟨R34, eR34, hF⟩ := qletE hF
  have hz35 : qok R34 R32.2.2.1 9 := qok.z eR34
  have E_17 : qExt R32 R34 := qExt.z eR34
  have hW_17 : qWT R34 := hW_16.z eR34
  have ha0_17 : qok R34 a0 6 := ha0_16.ext E_17
  obtain ⟨R36, eR36, hF⟩ := qletE hF
  have E_18 : qExt R34 R36 := qExt.pr eR36
  have hW_18 : qWT R36 := hW_17.pr ha0_17 hz35 eR36
  have ha0_18 : qok R36 a0 6 := ha0_17.ext E_18
  obtain ⟨rfl, rfl⟩ := qpair hF
  have hX_18 := qX_end hW_18
  have hX_17 := qx_trans E_18 hX_18
  have hX_16 := qx_trans E_17 hX_17
  have hX_15 := qx_trans E_16 hX_16
  have hX_14 := qx_trans E_15 hX_15
  have hX_13 := qx_trans E_14 hX_14
  have hX_12 := qx_trans E_13 hX_13
  have hX_11 := qx_trans E_12 hX_12
  have hX_10 := qx_trans E_11 hX_11
  have hX_9 := qx_trans E_10 hX_10
  have hX_8 := qx_trans E_9 hX_9
  have hX_7 := qx_trans E_8 hX_8
  have hX_6 := qx_trans E_7 hX_7
  have hX_5 := qx_trans E_6 hX_6
  have hX_4 := qx_trans E_5 hX_5
  have hX_3 := qx_trans E_4 hX_4
  have hX_2 := qx_trans E_3 hX_3
  have hX_1 := qx_trans E_2 hX_2
  have hX := qx_trans E_1 hX_1
  exact hX
set_option maxHeartbeats 4000000 in
set_option maxRecDepth 100000 in
theorem sX6_init {l : Launch} {G : qG} {R : qR} {I : qI} {a0 : Nat} {rI : qI} {rR : qR} (hW : qWT R) (ha0 : qok R a0 6) (hF : fX6_init R I a0 = some (rI, rR)) : qMt l G mX6_init 1 [.ref (G.1 + a0)] I R (none) rI rR := by
  unfold fX6_init at hF
  obtain ⟨I1, eI1, hF⟩ := qletE hF
  obtain ⟨R2, eR2, hF⟩ := qletE hF
  have hz3 : qok R2 R.2.2.1 11 := qok.z eR2
  have E_1 : qExt R R2 := qExt.z eR2
  have hW_1 : qWT R2 := hW.z eR2
  have ha0_1 : qok R2 a0 6 := ha0.ext E_1
  obtain ⟨R4, eR4, hF⟩ := qletE hF
  have E_2 : qExt R2 R4 := qExt.pr eR4
  have hW_2 : qWT R4 := hW_1.pr ha0_1 hz3 eR4
  have ha0_2 : qok R4 a0 6 := ha0_1.ext E_2
  obtain ⟨I5, eI5, hF⟩ := qletE hF
  obtain ⟨R6, eR6, hF⟩ := qletE hF
  have hz7 : qok R6 R4.2.2.1 9 := qok.z eR6
  have E_3 : qExt R4 R6 := qExt.z eR6
  have hW_3 : qWT R6 := hW_2.z eR6
  have ha0_3 : qok R6 a0 6 := ha0_2.ext E_3
  obtain ⟨R8, eR8, hF⟩ := qletE hF
  have E_4 : qExt R6 R8 := qExt.pr eR8
  have hW_4 : qWT R8 := hW_3.pr ha0_3 hz7 eR8
  have ha0_4 : qok R8 a0 6 := ha0_3.ext E_4
  obtain ⟨I9, eI9, hF⟩ := qletE hF
  obtain ⟨R10, eR10, hF⟩ := qletE hF
  have hz11 : qok R10 R8.2.2.1 9 := qok.z eR10
  have E_5 : qExt R8 R10 := qExt.z eR10
  have hW_5 : qWT R10 := hW_4.z eR10
  have ha0_5 : qok R10 a0 6 := ha0_4.ext E_5
  obtain ⟨R12, eR12, hF⟩ := qletE hF
  have E_6 : qExt R10 R12 := qExt.pr eR12
  have hW_6 : qWT R12 := hW_5.pr ha0_5 hz11 eR12
  have ha0_6 : qok R12 a0 6 := ha0_5.ext E_6
  obtain ⟨I13, eI13, hF⟩ := qletE hF
  obtain ⟨R14, eR14, hF⟩ := qletE hF
  have hz15 : qok R14 R12.2.2.1 9 := qok.z eR14
  have E_7 : qExt R12 R14 := qExt.z eR14
  have hW_7 : qWT R14 := hW_6.z eR14
  have ha0_7 : qok R14 a0 6 := ha0_6.ext E_7
  obtain ⟨R16, eR16, hF⟩ := qletE hF
  have E_8 : qExt R14 R16 := qExt.pr eR16
  have hW_8 : qWT R16 := hW_7.pr ha0_7 hz15 eR16
  have ha0_8 : qok R16 a0 6 := ha0_7.ext E_8
  obtain ⟨I17, eI17, hF⟩ := qletE hF
  obtain ⟨R18, eR18, hF⟩ := qletE hF
  have hz19 : qok R18 R16.2.2.1 9 := qok.z eR18
  have E_9 : qExt R16 R18 := qExt.z eR18
  have hW_9 : qWT R18 := hW_8.z eR18
  have ha0_9 : qok R18 a0 6 := ha0_8.ext E_9
  obtain ⟨R20, eR20, hF⟩ := qletE hF
  have E_10 : qExt R18 R20 := qExt.pr eR20
  have hW_10 : qWT R20 := hW_9.pr ha0_9 hz19 eR20
  have ha0_10 : qok R20 a0 6 := ha0_9.ext E_10
  obtain ⟨I21, eI21, hF⟩ := qletE hF
  obtain ⟨R22, eR22, hF⟩ := qletE hF
  have hz23 : qok R22 R20.2.2.1 9 := qok.z eR22
  have E_11 : qExt R20 R22 := qExt.z eR22
  have hW_11 : qWT R22 := hW_10.z eR22
  have ha0_11 : qok R22 a0 6 := ha0_10.ext E_11
  obtain ⟨R24, eR24, hF⟩ := qletE hF
  have E_12 : qExt R22 R24 := qExt.pr eR24
  have hW_12 : qWT R24 := hW_11.pr ha0_11 hz23 eR24
  have ha0_12 : qok R24 a0 6 := ha0_11.ext E_12
  obtain ⟨I25, eI25, hF⟩ := qletE hF
  obtain ⟨R26, eR26, hF⟩ := qletE hF
  have hz27 : qok R26 R24.2.2.1 9 := qok.z eR26
  have E_13 : qExt R24 R26 := qExt.z eR26
  have hW_13 : qWT R26 := hW_12.z eR26
  have ha0_13 : qok R26 a0 6 := ha0_12.ext E_13
  obtain ⟨R28, eR28, hF⟩ := qletE hF
  have E_14 : qExt R26 R28 := qExt.pr eR28
  have hW_14 : qWT R28 := hW_13.pr ha0_13 hz27 eR28
  have ha0_14 : qok R28 a0 6 := ha0_13.ext E_14
  obtain ⟨I29, eI29, hF⟩ := qletE hF
  obtain ⟨R30, eR30, hF⟩ := qletE hF
  have hz31 : qok R30 R28.2.2.1 9 := qok.z eR30
  have E_15 : qExt R28 R30 := qExt.z eR30
  have hW_15 : qWT R30 := hW_14.z eR30
  have ha0_15 : qok R30 a0 6 := ha0_14.ext E_15
  obtain ⟨R32, eR32, hF⟩ := qletE hF
  have E_16 : qExt R30 R32 := qExt.pr eR32
  have hW_16 : qWT R32 := hW_15.pr ha0_15 hz31 eR32
  have ha0_16 : qok R32 a0 6 := ha0_15.ext E_16
  obtain ⟨I33, eI33, hF⟩ := qletE hF
  obtain ⟨R34, eR34, hF⟩ := qletE hF
  have hz35 : qok R34 R32.2.2.1 9 := qok.z eR34
  have E_17 : qExt R32 R34 := qExt.z eR34
  have hW_17 : qWT R34 := hW_16.z eR34
  have ha0_17 : qok R34 a0 6 := ha0_16.ext E_17
  obtain ⟨R36, eR36, hF⟩ := qletE hF
  have E_18 : qExt R34 R36 := qExt.pr eR36
  have hW_18 : qWT R36 := hW_17.pr ha0_17 hz35 eR36
  have ha0_18 : qok R36 a0 6 := ha0_17.ext E_18
  obtain ⟨rfl, rfl⟩ := qpair hF
  have hX_18 := qX_end hW_18
  have hX_17 := qx_trans E_18 hX_18
  have hX_16 := qx_trans E_17 hX_17
  have hX_15 := qx_trans E_16 hX_16
  have hX_14 := qx_trans E_15 hX_15
  have hX_13 := qx_trans E_14 hX_14
  have hX_12 := qx_trans E_13 hX_13
  have hX_11 := qx_trans E_12 hX_12
  have hX_10 := qx_trans E_11 hX_11
  have hX_9 := qx_trans E_10 hX_10
  have hX_8 := qx_trans E_9 hX_9
  have hX_7 := qx_trans E_8 hX_8
  have hX_6 := qx_trans E_7 hX_7
  have hX_5 := qx_trans E_6 hX_6
  have hX_4 := qx_trans E_5 hX_5
  have hX_3 := qx_trans E_4 hX_4
  have hX_2 := qx_trans E_3 hX_3
  have hX_1 := qx_trans E_2 hX_2
  have hX := qx_trans E_1 hX_1
  refine qMt_of (by decide) (Nat.le_of_ble_eq_true rfl) ⟨hX.2.1, hX.2.2.1⟩ ?_
  show AW _ 0 [(0, .ref (G.1 + a0))] [] I R
  refine aw_aload_n dX6_init_0 0 rfl rfl ?_
  refine aw_objInit cl_X6_3 cx_oi cx_oc rfl (Nat.le_of_ble_eq_true rfl) (Nat.le_of_ble_eq_true rfl) (Nat.le_of_ble_eq_true rfl) dX6_init_1 ?_
  refine aw_aload_n dX6_init_4 0 rfl rfl ?_
  refine aw_iconst (v := (0 : Int32)) dX6_init_5 (by decide) ?_
  refine aw_newtq cc_X6_9 (by decide) (by decide) (by decide) eI1 eR2 hX_1.2 rfl dX6_init_6 ?_
  refine aw_putrq fl_X6_11 (by decide) fs_X6_0 fn_X6_0 ft_X6_0 ha0_1 eR4 rfl dX6_init_9 ?_
  refine aw_aload_n dX6_init_12 0 rfl rfl ?_
  refine aw_bipush (v := (12 : Int32)) dX6_init_13 (by decide) ?_
  refine aw_newiq (by decide) (by decide) (by decide) eI5 eR6 hX_3.2 dX6_init_15 ?_
  refine aw_putFq fl_X6_17 (by decide) fs_X6_4 fn_X6_4 ft_X6_4 fo_X6 rfl ha0_3 eR8 rfl dX6_init_17 ?_
  refine aw_aload_n dX6_init_20 0 rfl rfl ?_
  refine aw_bipush (v := (100 : Int32)) dX6_init_21 (by decide) ?_
  refine aw_newiq (by decide) (by decide) (by decide) eI9 eR10 hX_5.2 dX6_init_23 ?_
  refine aw_putFq fl_X6_21 (by decide) fs_X6_5 fn_X6_5 ft_X6_5 fo_X6 rfl ha0_5 eR12 rfl dX6_init_25 ?_
  refine aw_aload_n dX6_init_28 0 rfl rfl ?_
  refine aw_bipush (v := (10 : Int32)) dX6_init_29 (by decide) ?_
  refine aw_newiq (by decide) (by decide) (by decide) eI13 eR14 hX_7.2 dX6_init_31 ?_
  refine aw_putFq fl_X6_24 (by decide) fs_X6_8 fn_X6_8 ft_X6_8 fo_X6 rfl ha0_7 eR16 rfl dX6_init_33 ?_
  refine aw_aload_n dX6_init_36 0 rfl rfl ?_
  refine aw_bipush (v := (10 : Int32)) dX6_init_37 (by decide) ?_
  refine aw_newiq (by decide) (by decide) (by decide) eI17 eR18 hX_9.2 dX6_init_39 ?_
  refine aw_putFq fl_X6_27 (by decide) fs_X6_9 fn_X6_9 ft_X6_9 fo_X6 rfl ha0_9 eR20 rfl dX6_init_41 ?_
  refine aw_aload_n dX6_init_44 0 rfl rfl ?_
  refine aw_bipush (v := (10 : Int32)) dX6_init_45 (by decide) ?_
  refine aw_newiq (by decide) (by decide) (by decide) eI21 eR22 hX_11.2 dX6_init_47 ?_
  refine aw_putFq fl_X6_30 (by decide) fs_X6_10 fn_X6_10 ft_X6_10 fo_X6 rfl ha0_11 eR24 rfl dX6_init_49 ?_
  refine aw_aload_n dX6_init_52 0 rfl rfl ?_
  refine aw_bipush (v := (10 : Int32)) dX6_init_53 (by decide) ?_
  refine aw_newiq (by decide) (by decide) (by decide) eI25 eR26 hX_13.2 dX6_init_55 ?_
  refine aw_putFq fl_X6_33 (by decide) fs_X6_11 fn_X6_11 ft_X6_11 fo_X6 rfl ha0_13 eR28 rfl dX6_init_57 ?_
  refine aw_aload_n dX6_init_60 0 rfl rfl ?_
  refine aw_bipush (v := (10 : Int32)) dX6_init_61 (by decide) ?_
  refine aw_newiq (by decide) (by decide) (by decide) eI29 eR30 hX_15.2 dX6_init_63 ?_
  refine aw_putFq fl_X6_36 (by decide) fs_X6_12 fn_X6_12 ft_X6_12 fo_X6 rfl ha0_15 eR32 rfl dX6_init_65 ?_
  refine aw_aload_n dX6_init_68 0 rfl rfl ?_
  refine aw_bipush (v := (10 : Int32)) dX6_init_69 (by decide) ?_
  refine aw_newiq (by decide) (by decide) (by decide) eI33 eR34 hX_17.2 dX6_init_71 ?_
  refine aw_putFq fl_X6_39 (by decide) fs_X6_14 fn_X6_14 ft_X6_14 fo_X6 rfl ha0_17 eR36 rfl dX6_init_73 ?_
  exact aw_vret rfl dX6_init_76 rfl rfl rfl
def fX6_setOut (R : qR) (I : qI) (a0 : Nat) (a1 : Nat) (p2 : Int32) (p3 : Int32) (p4 : Int32) : Option (qI × qR) :=
  qlet (qpr R a0 0 (some a1)) fun R1 =>
  qlet (qup I a0 1 p2) fun I2 =>
  qlet (qup I2 a0 2 p3) fun I3 =>
  qlet (qup I3 a0 3 p4) fun I4 =>
  some (I4, R1)
set_option maxHeartbeats 4000000 in
set_option maxRecDepth 100000 in
theorem eX6_setOut {R : qR} {I : qI} {a0 : Nat} {a1 : Nat} {p2 : Int32} {p3 : Int32} {p4 : Int32} {rI : qI} {rR : qR} (hW : qWT R) (ha0 : qok R a0 6) (ha1 : qok R a1 11) (hF : fX6_setOut R I a0 a1 p2 p3 p4 = some (rI, rR)) : qWT rR ∧ qExt R rR := by
  unfold fX6_setOut at hF
  obtain ⟨R1, eR1, hF⟩ := qletE hF
  have E : qExt R R1 := qExt.pr eR1
  have hW : qWT R1 := hW.pr ha0 ha1 eR1
  have ha0 : qok R1 a0 6 := ha0.ext E
  have ha1 : qok R1 a1 11 := ha1.ext E
  refine qx_trans E ?_
  obtain ⟨I2, eI2, hF⟩ := qletE hF
  obtain ⟨I3, eI3, hF⟩ := qletE hF
  obtain ⟨I4, eI4, hF⟩ := qletE hF
  cases hF
  exact ⟨hW, qExt.rf⟩
set_option maxHeartbeats 4000000 in
set_option maxRecDepth 100000 in
theorem sX6_setOut {l : Launch} {G : qG} {R : qR} {I : qI} {a0 : Nat} {a1 : Nat} {p2 : Int32} {p3 : Int32} {p4 : Int32} {rI : qI} {rR : qR} (hW : qWT R) (ha0 : qok R a0 6) (ha1 : qok R a1 11) (hF : fX6_setOut R I a0 a1 p2 p3 p4 = some (rI, rR)) : qMt l G mX6_setOut 1 [.ref (G.1 + a0), .ref (G.1 + a1), .int p2, .int p3, .int p4] I R (none) rI rR := by
  have hX := eX6_setOut hW ha0 ha1 hF
  unfold fX6_setOut at hF
  refine qMt_of (by decide) (Nat.le_of_ble_eq_true rfl) ⟨hX.2.1, hX.2.2.1⟩ ?_
  show AW _ 0 [(0, .ref (G.1 + a0)), (1, .ref (G.1 + a1)), (2, .int p2), (3, .int p3), (4, .int p4)] [] I R
  refine aw_aload_n dX6_setOut_0 0 rfl rfl ?_
  refine aw_aload_n dX6_setOut_1 1 rfl rfl ?_
  obtain ⟨R1, eR1, hF⟩ := qletE hF
  refine aw_putrq fl_X6_11 (by decide) fs_X6_0 fn_X6_0 ft_X6_0 ha0 eR1 rfl dX6_setOut_2 ?_
  have E : qExt R R1 := qExt.pr eR1
  have hW : qWT R1 := hW.pr ha0 ha1 eR1
  have ha0 : qok R1 a0 6 := ha0.ext E
  have ha1 : qok R1 a1 11 := ha1.ext E
  have hX : qWT rR ∧ qExt R1 rR := by
    obtain ⟨I2, eI2, hF⟩ := qletE hF
    obtain ⟨I3, eI3, hF⟩ := qletE hF
    obtain ⟨I4, eI4, hF⟩ := qletE hF
    cases hF
    exact ⟨hW, qExt.rf⟩
  refine aw_aload_n dX6_setOut_5 0 rfl rfl ?_
  refine aw_iload_n dX6_setOut_6 2 rfl rfl ?_
  obtain ⟨I2, eI2, hF⟩ := qletE hF
  refine aw_putiq fl_X6_42 (by decide) fs_X6_1 fn_X6_1 ft_X6_1 ha0 eI2 rfl dX6_setOut_7 ?_
  refine aw_aload_n dX6_setOut_10 0 rfl rfl ?_
  refine aw_iload_n dX6_setOut_11 3 rfl rfl ?_
  obtain ⟨I3, eI3, hF⟩ := qletE hF
  refine aw_putiq fl_X6_46 (by decide) fs_X6_2 fn_X6_2 ft_X6_2 ha0 eI3 rfl dX6_setOut_12 ?_
  refine aw_aload_n dX6_setOut_15 0 rfl rfl ?_
  refine aw_iload dX6_setOut_16 4 rfl ?_
  obtain ⟨I4, eI4, hF⟩ := qletE hF
  refine aw_putiq fl_X6_49 (by decide) fs_X6_3 fn_X6_3 ft_X6_3 ha0 eI4 rfl dX6_setOut_18 ?_
  cases hF
  exact aw_vret rfl dX6_setOut_21 rfl rfl rfl
def fX7_init (N : Nat) (R : qR) (I : qI) (a0 : Nat) : Option (qI × qR) :=
  qlet (qzI I R.2.2.1) fun I1 =>
  qlet (qzR R 11 10) fun R2 =>
  qlet (qpr R2 a0 0 (some R.2.2.1)) fun R4 =>
  qlet (qzI I1 R4.2.2.1) fun I5 =>
  qlet (qzR R4 3 1) fun R6 =>
  (fX3_init R6 I5 R4.2.2.1).bind fun y8 =>
  qlet (qpr y8.2 a0 1 (some R4.2.2.1)) fun R9 =>
  qlet (qzI y8.1 R9.2.2.1) fun I10 =>
  qlet (qzR R9 4 7) fun R11 =>
  (fX4_init N R11 I10 R9.2.2.1).bind fun y13 =>
  qlet (qpr y13.2 a0 2 (some R9.2.2.1)) fun R14 =>
  qlet (qzI y13.1 R14.2.2.1) fun I15 =>
  qlet (qzR R14 6 16) fun R16 =>
  (fX6_init R16 I15 R14.2.2.1).bind fun y18 =>
  qlet (qpr y18.2 a0 3 (some R14.2.2.1)) fun R19 =>
  qlet (qup y18.1 a0 5 (5 : Int32)) fun I20 =>
  (R19.1 a0 0).bind fun r21 =>
  qlet (qzI I20 R19.2.2.1) fun I22 =>
  qlet (qzR R19 5 6) fun R23 =>
  (fX5_init N R23 I22 R19.2.2.1).bind fun y25 =>
  (qwa y25.2 r21 (0 : Int32) R19.2.2.1).bind fun R26 =>
  (R26.1 a0 0).bind fun r27 =>
  qlet (qzI y25.1 R26.2.2.1) fun I28 =>
  qlet (qzR R26 5 6) fun R29 =>
  (fX5_init N R29 I28 R26.2.2.1).bind fun y31 =>
  (qwa y31.2 r27 (1 : Int32) R26.2.2.1).bind fun R32 =>
  (R32.1 a0 0).bind fun r33 =>
  qlet (qzI y31.1 R32.2.2.1) fun I34 =>
  qlet (qzR R32 5 6) fun R35 =>
  (fX5_init N R35 I34 R32.2.2.1).bind fun y37 =>
  (qwa y37.2 r33 (2 : Int32) R32.2.2.1).bind fun R38 =>
  (R38.1 a0 0).bind fun r39 =>
  qlet (qzI y37.1 R38.2.2.1) fun I40 =>
  qlet (qzR R38 5 6) fun R41 =>
  (fX5_init N R41 I40 R38.2.2.1).bind fun y43 =>
  (qwa y43.2 r39 (3 : Int32) R38.2.2.1).bind fun R44 =>
  (R44.1 a0 0).bind fun r45 =>
  qlet (qzI y43.1 R44.2.2.1) fun I46 =>
  qlet (qzR R44 5 6) fun R47 =>
  (fX5_init N R47 I46 R44.2.2.1).bind fun y49 =>
  (qwa y49.2 r45 (4 : Int32) R44.2.2.1).bind fun R50 =>
  (R50.1 a0 0).bind fun r51 =>
  qlet (qzI y49.1 R50.2.2.1) fun I52 =>
  qlet (qzR R50 5 6) fun R53 =>
  (fX5_init N R53 I52 R50.2.2.1).bind fun y55 =>
  (qwa y55.2 r51 (5 : Int32) R50.2.2.1).bind fun R56 =>
  (R56.1 a0 0).bind fun r57 =>
  qlet (qzI y55.1 R56.2.2.1) fun I58 =>
  qlet (qzR R56 5 6) fun R59 =>
  (fX5_init N R59 I58 R56.2.2.1).bind fun y61 =>
  (qwa y61.2 r57 (6 : Int32) R56.2.2.1).bind fun R62 =>
  (R62.1 a0 0).bind fun r63 =>
  qlet (qzI y61.1 R62.2.2.1) fun I64 =>
  qlet (qzR R62 5 6) fun R65 =>
  (fX5_init N R65 I64 R62.2.2.1).bind fun y67 =>
  (qwa y67.2 r63 (7 : Int32) R62.2.2.1).bind fun R68 =>
  (R68.1 a0 0).bind fun r69 =>
  qlet (qzI y67.1 R68.2.2.1) fun I70 =>
  qlet (qzR R68 5 6) fun R71 =>
  (fX5_init N R71 I70 R68.2.2.1).bind fun y73 =>
  (qwa y73.2 r69 (8 : Int32) R68.2.2.1).bind fun R74 =>
  (R74.1 a0 0).bind fun r75 =>
  qlet (qzI y73.1 R74.2.2.1) fun I76 =>
  qlet (qzR R74 5 6) fun R77 =>
  (fX5_init N R77 I76 R74.2.2.1).bind fun y79 =>
  (qwa y79.2 r75 (9 : Int32) R74.2.2.1).bind fun R80 =>
  some (y79.1, R80)
set_option maxHeartbeats 4000000 in
set_option maxRecDepth 100000 in
theorem eX7_init {N : Nat} {R : qR} {I : qI} {a0 : Nat} {rI : qI} {rR : qR} (hW : qWT R) (ha0 : qok R a0 7) (hF : fX7_init N R I a0 = some (rI, rR)) : qWT rR ∧ qExt R rR := by
  unfold fX7_init at hF
  obtain ⟨I1, eI1, hF⟩ := qletE hF
  obtain ⟨R2, eR2, hF⟩ := qletE hF
  have hz3 : qok R2 R.2.2.1 11 := qok.z eR2
  have E_1 : qExt R R2 := qExt.z eR2
  have hW_1 : qWT R2 := hW.z eR2
  have ha0_1 : qok R2 a0 7 := ha0.ext E_1
  obtain ⟨R4, eR4, hF⟩ := qletE hF
  have E_2 : qExt R2 R4 := qExt.pr eR4
  have hW_2 : qWT R4 := hW_1.pr ha0_1 hz3 eR4
  have ha0_2 : qok R4 a0 7 := ha0_1.ext E_2
  obtain ⟨I5, eI5, hF⟩ := qletE hF
  obtain ⟨R6, eR6, hF⟩ := qletE hF
  have hz7 : qok R6 R4.2.2.1 3 := qok.z eR6
  have E_3 : qExt R4 R6 := qExt.z eR6
  have hW_3 : qWT R6 := hW_2.z eR6
  have ha0_3 : qok R6 a0 7 := ha0_2.ext E_3
  obtain ⟨y8, ey8, hF⟩ := qbind hF
  have eX_4 := eX3_init hW_3 hz7 ey8
  have E_4 : qExt R6 y8.2 := eX_4.2
  have hW_4 : qWT y8.2 := eX_4.1
  have ha0_4 : qok y8.2 a0 7 := ha0_3.ext E_4
  have hz7_4 : qok y8.2 R4.2.2.1 3 := hz7.ext E_4
  obtain ⟨R9, eR9, hF⟩ := qletE hF
  have E_5 : qExt y8.2 R9 := qExt.pr eR9
  have hW_5 : qWT R9 := hW_4.pr ha0_4 hz7_4 eR9
  have ha0_5 : qok R9 a0 7 := ha0_4.ext E_5
  obtain ⟨I10, eI10, hF⟩ := qletE hF
  obtain ⟨R11, eR11, hF⟩ := qletE hF
  have hz12 : qok R11 R9.2.2.1 4 := qok.z eR11
  have E_6 : qExt R9 R11 := qExt.z eR11
  have hW_6 : qWT R11 := hW_5.z eR11
  have ha0_6 : qok R11 a0 7 := ha0_5.ext E_6
  obtain ⟨y13, ey13, hF⟩ := qbind hF
  have eX_7 := eX4_init hW_6 hz12 ey13
  have E_7 : qExt R11 y13.2 := eX_7.2
  have hW_7 : qWT y13.2 := eX_7.1
  have ha0_7 : qok y13.2 a0 7 := ha0_6.ext E_7
  have hz12_7 : qok y13.2 R9.2.2.1 4 := hz12.ext E_7
  obtain ⟨R14, eR14, hF⟩ := qletE hF
  have E_8 : qExt y13.2 R14 := qExt.pr eR14
  have hW_8 : qWT R14 := hW_7.pr ha0_7 hz12_7 eR14
  have ha0_8 : qok R14 a0 7 := ha0_7.ext E_8
  obtain ⟨I15, eI15, hF⟩ := qletE hF
  obtain ⟨R16, eR16, hF⟩ := qletE hF
  have hz17 : qok R16 R14.2.2.1 6 := qok.z eR16
  have E_9 : qExt R14 R16 := qExt.z eR16
  have hW_9 : qWT R16 := hW_8.z eR16
  have ha0_9 : qok R16 a0 7 := ha0_8.ext E_9
  obtain ⟨y18, ey18, hF⟩ := qbind hF
  have eX_10 := eX6_init hW_9 hz17 ey18
  have E_10 : qExt R16 y18.2 := eX_10.2
  have hW_10 : qWT y18.2 := eX_10.1
  have ha0_10 : qok y18.2 a0 7 := ha0_9.ext E_10
  have hz17_10 : qok y18.2 R14.2.2.1 6 := hz17.ext E_10
  obtain ⟨R19, eR19, hF⟩ := qletE hF
  have E_11 : qExt y18.2 R19 := qExt.pr eR19
  have hW_11 : qWT R19 := hW_10.pr ha0_10 hz17_10 eR19
  have ha0_11 : qok R19 a0 7 := ha0_10.ext E_11
  obtain ⟨I20, eI20, hF⟩ := qletE hF
  obtain ⟨r21, er21, hF⟩ := qbind hF
  have kr21 : qok R19 r21 11 := hW_11.get ha0_11 er21 rfl
  obtain ⟨I22, eI22, hF⟩ := qletE hF
  obtain ⟨R23, eR23, hF⟩ := qletE hF
  have hz24 : qok R23 R19.2.2.1 5 := qok.z eR23
  have E_12 : qExt R19 R23 := qExt.z eR23
  have hW_12 : qWT R23 := hW_11.z eR23
  have ha0_12 : qok R23 a0 7 := ha0_11.ext E_12
  have kr21_12 : qok R23 r21 11 := kr21.ext E_12
  obtain ⟨y25, ey25, hF⟩ := qbind hF
  have eX_13 := eX5_init hW_12 hz24 ey25
  have E_13 : qExt R23 y25.2 := eX_13.2
  have hW_13 : qWT y25.2 := eX_13.1
  have ha0_13 : qok y25.2 a0 7 := ha0_12.ext E_13
  have kr21_13 : qok y25.2 r21 11 := kr21_12.ext E_13
  have hz24_13 : qok y25.2 R19.2.2.1 5 := hz24.ext E_13
  obtain ⟨R26, eR26, hF⟩ := qbind hF
  have E_14 : qExt y25.2 R26 := qExt.pr (qwa_some eR26).2.symm
  have hW_14 : qWT R26 := hW_13.pr kr21_13 hz24_13 (qwa_some eR26).2.symm
  have ha0_14 : qok R26 a0 7 := ha0_13.ext E_14
  obtain ⟨r27, er27, hF⟩ := qbind hF
  have kr27 : qok R26 r27 11 := hW_14.get ha0_14 er27 rfl
  obtain ⟨I28, eI28, hF⟩ := qletE hF
  obtain ⟨R29, eR29, hF⟩ := qletE hF
  have hz30 : qok R29 R26.2.2.1 5 := qok.z eR29
  have E_15 : qExt R26 R29 := qExt.z eR29
  have hW_15 : qWT R29 := hW_14.z eR29
  have ha0_15 : qok R29 a0 7 := ha0_14.ext E_15
  have kr27_15 : qok R29 r27 11 := kr27.ext E_15
  obtain ⟨y31, ey31, hF⟩ := qbind hF
  have eX_16 := eX5_init hW_15 hz30 ey31
  have E_16 : qExt R29 y31.2 := eX_16.2
  have hW_16 : qWT y31.2 := eX_16.1
  have ha0_16 : qok y31.2 a0 7 := ha0_15.ext E_16
  have kr27_16 : qok y31.2 r27 11 := kr27_15.ext E_16
  have hz30_16 : qok y31.2 R26.2.2.1 5 := hz30.ext E_16
  obtain ⟨R32, eR32, hF⟩ := qbind hF
  have E_17 : qExt y31.2 R32 := qExt.pr (qwa_some eR32).2.symm
  have hW_17 : qWT R32 := hW_16.pr kr27_16 hz30_16 (qwa_some eR32).2.symm
  have ha0_17 : qok R32 a0 7 := ha0_16.ext E_17
  obtain ⟨r33, er33, hF⟩ := qbind hF
  have kr33 : qok R32 r33 11 := hW_17.get ha0_17 er33 rfl
  obtain ⟨I34, eI34, hF⟩ := qletE hF
  obtain ⟨R35, eR35, hF⟩ := qletE hF
  have hz36 : qok R35 R32.2.2.1 5 := qok.z eR35
  have E_18 : qExt R32 R35 := qExt.z eR35
  have hW_18 : qWT R35 := hW_17.z eR35
  have ha0_18 : qok R35 a0 7 := ha0_17.ext E_18
  have kr33_18 : qok R35 r33 11 := kr33.ext E_18
  obtain ⟨y37, ey37, hF⟩ := qbind hF
  have eX_19 := eX5_init hW_18 hz36 ey37
  have E_19 : qExt R35 y37.2 := eX_19.2
  have hW_19 : qWT y37.2 := eX_19.1
  have ha0_19 : qok y37.2 a0 7 := ha0_18.ext E_19
  have kr33_19 : qok y37.2 r33 11 := kr33_18.ext E_19
  have hz36_19 : qok y37.2 R32.2.2.1 5 := hz36.ext E_19
  obtain ⟨R38, eR38, hF⟩ := qbind hF
  have E_20 : qExt y37.2 R38 := qExt.pr (qwa_some eR38).2.symm
  have hW_20 : qWT R38 := hW_19.pr kr33_19 hz36_19 (qwa_some eR38).2.symm
  have ha0_20 : qok R38 a0 7 := ha0_19.ext E_20
  obtain ⟨r39, er39, hF⟩ := qbind hF
  have kr39 : qok R38 r39 11 := hW_20.get ha0_20 er39 rfl
  obtain ⟨I40, eI40, hF⟩ := qletE hF
  obtain ⟨R41, eR41, hF⟩ := qletE hF
  have hz42 : qok R41 R38.2.2.1 5 := qok.z eR41
  have E_21 : qExt R38 R41 := qExt.z eR41
  have hW_21 : qWT R41 := hW_20.z eR41
  have ha0_21 : qok R41 a0 7 := ha0_20.ext E_21
  have kr39_21 : qok R41 r39 11 := kr39.ext E_21
  obtain ⟨y43, ey43, hF⟩ := qbind hF
  have eX_22 := eX5_init hW_21 hz42 ey43
  have E_22 : qExt R41 y43.2 := eX_22.2
  have hW_22 : qWT y43.2 := eX_22.1
  have ha0_22 : qok y43.2 a0 7 := ha0_21.ext E_22
  have kr39_22 : qok y43.2 r39 11 := kr39_21.ext E_22
  have hz42_22 : qok y43.2 R38.2.2.1 5 := hz42.ext E_22
  obtain ⟨R44, eR44, hF⟩ := qbind hF
  have E_23 : qExt y43.2 R44 := qExt.pr (qwa_some eR44).2.symm
  have hW_23 : qWT R44 := hW_22.pr kr39_22 hz42_22 (qwa_some eR44).2.symm
  have ha0_23 : qok R44 a0 7 := ha0_22.ext E_23
  obtain ⟨r45, er45, hF⟩ := qbind hF
  have kr45 : qok R44 r45 11 := hW_23.get ha0_23 er45 rfl
  obtain ⟨I46, eI46, hF⟩ := qletE hF
  obtain ⟨R47, eR47, hF⟩ := qletE hF
  have hz48 : qok R47 R44.2.2.1 5 := qok.z eR47
  have E_24 : qExt R44 R47 := qExt.z eR47
  have hW_24 : qWT R47 := hW_23.z eR47
  have ha0_24 : qok R47 a0 7 := ha0_23.ext E_24
  have kr45_24 : qok R47 r45 11 := kr45.ext E_24
  obtain ⟨y49, ey49, hF⟩ := qbind hF
  have eX_25 := eX5_init hW_24 hz48 ey49
  have E_25 : qExt R47 y49.2 := eX_25.2
  have hW_25 : qWT y49.2 := eX_25.1
  have ha0_25 : qok y49.2 a0 7 := ha0_24.ext E_25
  have kr45_25 : qok y49.2 r45 11 := kr45_24.ext E_25
  have hz48_25 : qok y49.2 R44.2.2.1 5 := hz48.ext E_25
  obtain ⟨R50, eR50, hF⟩ := qbind hF
  have E_26 : qExt y49.2 R50 := qExt.pr (qwa_some eR50).2.symm
  have hW_26 : qWT R50 := hW_25.pr kr45_25 hz48_25 (qwa_some eR50).2.symm
  have ha0_26 : qok R50 a0 7 := ha0_25.ext E_26
  obtain ⟨r51, er51, hF⟩ := qbind hF
  have kr51 : qok R50 r51 11 := hW_26.get ha0_26 er51 rfl
  obtain ⟨I52, eI52, hF⟩ := qletE hF
  obtain ⟨R53, eR53, hF⟩ := qletE hF
  have hz54 : qok R53 R50.2.2.1 5 := qok.z eR53
  have E_27 : qExt R50 R53 := qExt.z eR53
  have hW_27 : qWT R53 := hW_26.z eR53
  have ha0_27 : qok R53 a0 7 := ha0_26.ext E_27
  have kr51_27 : qok R53 r51 11 := kr51.ext E_27
  obtain ⟨y55, ey55, hF⟩ := qbind hF
  have eX_28 := eX5_init hW_27 hz54 ey55
  have E_28 : qExt R53 y55.2 := eX_28.2
  have hW_28 : qWT y55.2 := eX_28.1
  have ha0_28 : qok y55.2 a0 7 := ha0_27.ext E_28
  have kr51_28 : qok y55.2 r51 11 := kr51_27.ext E_28
  have hz54_28 : qok y55.2 R50.2.2.1 5 := hz54.ext E_28
  obtain ⟨R56, eR56, hF⟩ := qbind hF
  have E_29 : qExt y55.2 R56 := qExt.pr (qwa_some eR56).2.symm
  have hW_29 : qWT R56 := hW_28.pr kr51_28 hz54_28 (qwa_some eR56).2.symm
  have ha0_29 : qok R56 a0 7 := ha0_28.ext E_29
  obtain ⟨r57, er57, hF⟩ := qbind hF
  have kr57 : qok R56 r57 11 := hW_29.get ha0_29 er57 rfl
  obtain ⟨I58, eI58, hF⟩ := qletE hF
  obtain ⟨R59, eR59, hF⟩ := qletE hF
  have hz60 : qok R59 R56.2.2.1 5 := qok.z eR59
  have E_30 : qExt R56 R59 := qExt.z eR59
  have hW_30 : qWT R59 := hW_29.z eR59
  have ha0_30 : qok R59 a0 7 := ha0_29.ext E_30
  have kr57_30 : qok R59 r57 11 := kr57.ext E_30
  obtain ⟨y61, ey61, hF⟩ := qbind hF
  have eX_31 := eX5_init hW_30 hz60 ey61
  have E_31 : qExt R59 y61.2 := eX_31.2
  have hW_31 : qWT y61.2 := eX_31.1
  have ha0_31 : qok y61.2 a0 7 := ha0_30.ext E_31
  have kr57_31 : qok y61.2 r57 11 := kr57_30.ext E_31
  have hz60_31 : qok y61.2 R56.2.2.1 5 := hz60.ext E_31
  obtain ⟨R62, eR62, hF⟩ := qbind hF
  have E_32 : qExt y61.2 R62 := qExt.pr (qwa_some eR62).2.symm
  have hW_32 : qWT R62 := hW_31.pr kr57_31 hz60_31 (qwa_some eR62).2.symm
  have ha0_32 : qok R62 a0 7 := ha0_31.ext E_32
  obtain ⟨r63, er63, hF⟩ := qbind hF
  have kr63 : qok R62 r63 11 := hW_32.get ha0_32 er63 rfl
  obtain ⟨I64, eI64, hF⟩ := qletE hF
  obtain ⟨R65, eR65, hF⟩ := qletE hF
  have hz66 : qok R65 R62.2.2.1 5 := qok.z eR65
  have E_33 : qExt R62 R65 := qExt.z eR65
  have hW_33 : qWT R65 := hW_32.z eR65
  have ha0_33 : qok R65 a0 7 := ha0_32.ext E_33
  have kr63_33 : qok R65 r63 11 := kr63.ext E_33
  obtain ⟨y67, ey67, hF⟩ := qbind hF
  have eX_34 := eX5_init hW_33 hz66 ey67
  have E_34 : qExt R65 y67.2 := eX_34.2
  have hW_34 : qWT y67.2 := eX_34.1
  have ha0_34 : qok y67.2 a0 7 := ha0_33.ext E_34
  have kr63_34 : qok y67.2 r63 11 := kr63_33.ext E_34
  have hz66_34 : qok y67.2 R62.2.2.1 5 := hz66.ext E_34
  obtain ⟨R68, eR68, hF⟩ := qbind hF
  have E_35 : qExt y67.2 R68 := qExt.pr (qwa_some eR68).2.symm
  have hW_35 : qWT R68 := hW_34.pr kr63_34 hz66_34 (qwa_some eR68).2.symm
  have ha0_35 : qok R68 a0 7 := ha0_34.ext E_35
  obtain ⟨r69, er69, hF⟩ := qbind hF
  have kr69 : qok R68 r69 11 := hW_35.get ha0_35 er69 rfl
  obtain ⟨I70, eI70, hF⟩ := qletE hF
  obtain ⟨R71, eR71, hF⟩ := qletE hF
  have hz72 : qok R71 R68.2.2.1 5 := qok.z eR71
  have E_36 : qExt R68 R71 := qExt.z eR71
  have hW_36 : qWT R71 := hW_35.z eR71
  have ha0_36 : qok R71 a0 7 := ha0_35.ext E_36
  have kr69_36 : qok R71 r69 11 := kr69.ext E_36
  obtain ⟨y73, ey73, hF⟩ := qbind hF
  have eX_37 := eX5_init hW_36 hz72 ey73
  have E_37 : qExt R71 y73.2 := eX_37.2
  have hW_37 : qWT y73.2 := eX_37.1
  have ha0_37 : qok y73.2 a0 7 := ha0_36.ext E_37
  have kr69_37 : qok y73.2 r69 11 := kr69_36.ext E_37
  have hz72_37 : qok y73.2 R68.2.2.1 5 := hz72.ext E_37
  obtain ⟨R74, eR74, hF⟩ := qbind hF
  have E_38 : qExt y73.2 R74 := qExt.pr (qwa_some eR74).2.symm
  have hW_38 : qWT R74 := hW_37.pr kr69_37 hz72_37 (qwa_some eR74).2.symm
  have ha0_38 : qok R74 a0 7 := ha0_37.ext E_38
  obtain ⟨r75, er75, hF⟩ := qbind hF
  have kr75 : qok R74 r75 11 := hW_38.get ha0_38 er75 rfl
  obtain ⟨I76, eI76, hF⟩ := qletE hF
  obtain ⟨R77, eR77, hF⟩ := qletE hF
  have hz78 : qok R77 R74.2.2.1 5 := qok.z eR77
  have E_39 : qExt R74 R77 := qExt.z eR77
  have hW_39 : qWT R77 := hW_38.z eR77
  have ha0_39 : qok R77 a0 7 := ha0_38.ext E_39
  have kr75_39 : qok R77 r75 11 := kr75.ext E_39
  obtain ⟨y79, ey79, hF⟩ := qbind hF
  have eX_40 := eX5_init hW_39 hz78 ey79
  have E_40 : qExt R77 y79.2 := eX_40.2
  have hW_40 : qWT y79.2 := eX_40.1
  have ha0_40 : qok y79.2 a0 7 := ha0_39.ext E_40
  have kr75_40 : qok y79.2 r75 11 := kr75_39.ext E_40
  have hz78_40 : qok y79.2 R74.2.2.1 5 := hz78.ext E_40
  obtain ⟨R80, eR80, hF⟩ := qbind hF
  have E_41 : qExt y79.2 R80 := qExt.pr (qwa_some eR80).2.symm
  have hW_41 : qWT R80 := hW_40.pr kr75_40 hz78_40 (qwa_some eR80).2.symm
  have ha0_41 : qok R80 a0 7 := ha0_40.ext E_41
  obtain ⟨rfl, rfl⟩ := qpair hF
  have hX_41 := qX_end hW_41
  have hX_40 := qx_trans E_41 hX_41
  have hX_39 := qx_trans E_40 hX_40
  have hX_38 := qx_trans E_39 hX_39
  have hX_37 := qx_trans E_38 hX_38
  have hX_36 := qx_trans E_37 hX_37
  have hX_35 := qx_trans E_36 hX_36
  have hX_34 := qx_trans E_35 hX_35
  have hX_33 := qx_trans E_34 hX_34
  have hX_32 := qx_trans E_33 hX_33
  have hX_31 := qx_trans E_32 hX_32
  have hX_30 := qx_trans E_31 hX_31
  have hX_29 := qx_trans E_30 hX_30
  have hX_28 := qx_trans E_29 hX_29
  have hX_27 := qx_trans E_28 hX_28
  have hX_26 := qx_trans E_27 hX_27
  have hX_25 := qx_trans E_26 hX_26
  have hX_24 := qx_trans E_25 hX_25
  have hX_23 := qx_trans E_24 hX_24
  have hX_22 := qx_trans E_23 hX_23
  have hX_21 := qx_trans E_22 hX_22
  have hX_20 := qx_trans E_21 hX_21
  have hX_19 := qx_trans E_20 hX_20
  have hX_18 := qx_trans E_19 hX_19
  have hX_17 := qx_trans E_18 hX_18
  have hX_16 := qx_trans E_17 hX_17
  have hX_15 := qx_trans E_16 hX_16
  have hX_14 := qx_trans E_15 hX_15
  have hX_13 := qx_trans E_14 hX_14
  have hX_12 := qx_trans E_13 hX_13
  have hX_11 := qx_trans E_12 hX_12
  have hX_10 := qx_trans E_11 hX_11
  have hX_9 := qx_trans E_10 hX_10
  have hX_8 := qx_trans E_9 hX_9
  have hX_7 := qx_trans E_8 hX_8
  have hX_6 := qx_trans E_7 hX_7
  have hX_5 := qx_trans E_6 hX_6
  have hX_4 := qx_trans E_5 hX_5
  have hX_3 := qx_trans E_4 hX_4
  have hX_2 := qx_trans E_3 hX_3
  have hX_1 := qx_trans E_2 hX_2
  have hX := qx_trans E_1 hX_1
  exact hX
set_option maxHeartbeats 4000000 in
set_option maxRecDepth 100000 in
theorem sX7_init {l : Launch} {G : qG} {N : Nat} {R : qR} {I : qI} {a0 : Nat} {rI : qI} {rR : qR} (hW : qWT R) (ha0 : qok R a0 7) (hF : fX7_init N R I a0 = some (rI, rR)) : qMt l G mX7_init 4 [.ref (G.1 + a0)] I R (none) rI rR := by
  unfold fX7_init at hF
  obtain ⟨I1, eI1, hF⟩ := qletE hF
  obtain ⟨R2, eR2, hF⟩ := qletE hF
  have hz3 : qok R2 R.2.2.1 11 := qok.z eR2
  have E_1 : qExt R R2 := qExt.z eR2
  have hW_1 : qWT R2 := hW.z eR2
  have ha0_1 : qok R2 a0 7 := ha0.ext E_1
  obtain ⟨R4, eR4, hF⟩ := qletE hF
  have E_2 : qExt R2 R4 := qExt.pr eR4
  have hW_2 : qWT R4 := hW_1.pr ha0_1 hz3 eR4
  have ha0_2 : qok R4 a0 7 := ha0_1.ext E_2
  obtain ⟨I5, eI5, hF⟩ := qletE hF
  obtain ⟨R6, eR6, hF⟩ := qletE hF
  have hz7 : qok R6 R4.2.2.1 3 := qok.z eR6
  have E_3 : qExt R4 R6 := qExt.z eR6
  have hW_3 : qWT R6 := hW_2.z eR6
  have ha0_3 : qok R6 a0 7 := ha0_2.ext E_3
  obtain ⟨y8, ey8, hF⟩ := qbind hF
  have eX_4 := eX3_init hW_3 hz7 ey8
  have E_4 : qExt R6 y8.2 := eX_4.2
  have hW_4 : qWT y8.2 := eX_4.1
  have ha0_4 : qok y8.2 a0 7 := ha0_3.ext E_4
  have hz7_4 : qok y8.2 R4.2.2.1 3 := hz7.ext E_4
  obtain ⟨R9, eR9, hF⟩ := qletE hF
  have E_5 : qExt y8.2 R9 := qExt.pr eR9
  have hW_5 : qWT R9 := hW_4.pr ha0_4 hz7_4 eR9
  have ha0_5 : qok R9 a0 7 := ha0_4.ext E_5
  obtain ⟨I10, eI10, hF⟩ := qletE hF
  obtain ⟨R11, eR11, hF⟩ := qletE hF
  have hz12 : qok R11 R9.2.2.1 4 := qok.z eR11
  have E_6 : qExt R9 R11 := qExt.z eR11
  have hW_6 : qWT R11 := hW_5.z eR11
  have ha0_6 : qok R11 a0 7 := ha0_5.ext E_6
  obtain ⟨y13, ey13, hF⟩ := qbind hF
  have eX_7 := eX4_init hW_6 hz12 ey13
  have E_7 : qExt R11 y13.2 := eX_7.2
  have hW_7 : qWT y13.2 := eX_7.1
  have ha0_7 : qok y13.2 a0 7 := ha0_6.ext E_7
  have hz12_7 : qok y13.2 R9.2.2.1 4 := hz12.ext E_7
  obtain ⟨R14, eR14, hF⟩ := qletE hF
  have E_8 : qExt y13.2 R14 := qExt.pr eR14
  have hW_8 : qWT R14 := hW_7.pr ha0_7 hz12_7 eR14
  have ha0_8 : qok R14 a0 7 := ha0_7.ext E_8
  obtain ⟨I15, eI15, hF⟩ := qletE hF
  obtain ⟨R16, eR16, hF⟩ := qletE hF
  have hz17 : qok R16 R14.2.2.1 6 := qok.z eR16
  have E_9 : qExt R14 R16 := qExt.z eR16
  have hW_9 : qWT R16 := hW_8.z eR16
  have ha0_9 : qok R16 a0 7 := ha0_8.ext E_9
  obtain ⟨y18, ey18, hF⟩ := qbind hF
  have eX_10 := eX6_init hW_9 hz17 ey18
  have E_10 : qExt R16 y18.2 := eX_10.2
  have hW_10 : qWT y18.2 := eX_10.1
  have ha0_10 : qok y18.2 a0 7 := ha0_9.ext E_10
  have hz17_10 : qok y18.2 R14.2.2.1 6 := hz17.ext E_10
  obtain ⟨R19, eR19, hF⟩ := qletE hF
  have E_11 : qExt y18.2 R19 := qExt.pr eR19
  have hW_11 : qWT R19 := hW_10.pr ha0_10 hz17_10 eR19
  have ha0_11 : qok R19 a0 7 := ha0_10.ext E_11
  obtain ⟨I20, eI20, hF⟩ := qletE hF
  obtain ⟨r21, er21, hF⟩ := qbind hF
  have kr21 : qok R19 r21 11 := hW_11.get ha0_11 er21 rfl
  obtain ⟨I22, eI22, hF⟩ := qletE hF
  obtain ⟨R23, eR23, hF⟩ := qletE hF
  have hz24 : qok R23 R19.2.2.1 5 := qok.z eR23
  have E_12 : qExt R19 R23 := qExt.z eR23
  have hW_12 : qWT R23 := hW_11.z eR23
  have ha0_12 : qok R23 a0 7 := ha0_11.ext E_12
  have kr21_12 : qok R23 r21 11 := kr21.ext E_12
  obtain ⟨y25, ey25, hF⟩ := qbind hF
  have eX_13 := eX5_init hW_12 hz24 ey25
  have E_13 : qExt R23 y25.2 := eX_13.2
  have hW_13 : qWT y25.2 := eX_13.1
  have ha0_13 : qok y25.2 a0 7 := ha0_12.ext E_13
  have kr21_13 : qok y25.2 r21 11 := kr21_12.ext E_13
  have hz24_13 : qok y25.2 R19.2.2.1 5 := hz24.ext E_13
  obtain ⟨R26, eR26, hF⟩ := qbind hF
  have E_14 : qExt y25.2 R26 := qExt.pr (qwa_some eR26).2.symm
  have hW_14 : qWT R26 := hW_13.pr kr21_13 hz24_13 (qwa_some eR26).2.symm
  have ha0_14 : qok R26 a0 7 := ha0_13.ext E_14
  obtain ⟨r27, er27, hF⟩ := qbind hF
  have kr27 : qok R26 r27 11 := hW_14.get ha0_14 er27 rfl
  obtain ⟨I28, eI28, hF⟩ := qletE hF
  obtain ⟨R29, eR29, hF⟩ := qletE hF
  have hz30 : qok R29 R26.2.2.1 5 := qok.z eR29
  have E_15 : qExt R26 R29 := qExt.z eR29
  have hW_15 : qWT R29 := hW_14.z eR29
  have ha0_15 : qok R29 a0 7 := ha0_14.ext E_15
  have kr27_15 : qok R29 r27 11 := kr27.ext E_15
  obtain ⟨y31, ey31, hF⟩ := qbind hF
  have eX_16 := eX5_init hW_15 hz30 ey31
  have E_16 : qExt R29 y31.2 := eX_16.2
  have hW_16 : qWT y31.2 := eX_16.1
  have ha0_16 : qok y31.2 a0 7 := ha0_15.ext E_16
  have kr27_16 : qok y31.2 r27 11 := kr27_15.ext E_16
  have hz30_16 : qok y31.2 R26.2.2.1 5 := hz30.ext E_16
  obtain ⟨R32, eR32, hF⟩ := qbind hF
  have E_17 : qExt y31.2 R32 := qExt.pr (qwa_some eR32).2.symm
  have hW_17 : qWT R32 := hW_16.pr kr27_16 hz30_16 (qwa_some eR32).2.symm
  have ha0_17 : qok R32 a0 7 := ha0_16.ext E_17
  obtain ⟨r33, er33, hF⟩ := qbind hF
  have kr33 : qok R32 r33 11 := hW_17.get ha0_17 er33 rfl
  obtain ⟨I34, eI34, hF⟩ := qletE hF
  obtain ⟨R35, eR35, hF⟩ := qletE hF
  have hz36 : qok R35 R32.2.2.1 5 := qok.z eR35
  have E_18 : qExt R32 R35 := qExt.z eR35
  have hW_18 : qWT R35 := hW_17.z eR35
  have ha0_18 : qok R35 a0 7 := ha0_17.ext E_18
  have kr33_18 : qok R35 r33 11 := kr33.ext E_18
  obtain ⟨y37, ey37, hF⟩ := qbind hF
  have eX_19 := eX5_init hW_18 hz36 ey37
  have E_19 : qExt R35 y37.2 := eX_19.2
  have hW_19 : qWT y37.2 := eX_19.1
  have ha0_19 : qok y37.2 a0 7 := ha0_18.ext E_19
  have kr33_19 : qok y37.2 r33 11 := kr33_18.ext E_19
  have hz36_19 : qok y37.2 R32.2.2.1 5 := hz36.ext E_19
  obtain ⟨R38, eR38, hF⟩ := qbind hF
  have E_20 : qExt y37.2 R38 := qExt.pr (qwa_some eR38).2.symm
  have hW_20 : qWT R38 := hW_19.pr kr33_19 hz36_19 (qwa_some eR38).2.symm
  have ha0_20 : qok R38 a0 7 := ha0_19.ext E_20
  obtain ⟨r39, er39, hF⟩ := qbind hF
  have kr39 : qok R38 r39 11 := hW_20.get ha0_20 er39 rfl
  obtain ⟨I40, eI40, hF⟩ := qletE hF
  obtain ⟨R41, eR41, hF⟩ := qletE hF
  have hz42 : qok R41 R38.2.2.1 5 := qok.z eR41
  have E_21 : qExt R38 R41 := qExt.z eR41
  have hW_21 : qWT R41 := hW_20.z eR41
  have ha0_21 : qok R41 a0 7 := ha0_20.ext E_21
  have kr39_21 : qok R41 r39 11 := kr39.ext E_21
  obtain ⟨y43, ey43, hF⟩ := qbind hF
  have eX_22 := eX5_init hW_21 hz42 ey43
  have E_22 : qExt R41 y43.2 := eX_22.2
  have hW_22 : qWT y43.2 := eX_22.1
  have ha0_22 : qok y43.2 a0 7 := ha0_21.ext E_22
  have kr39_22 : qok y43.2 r39 11 := kr39_21.ext E_22
  have hz42_22 : qok y43.2 R38.2.2.1 5 := hz42.ext E_22
  obtain ⟨R44, eR44, hF⟩ := qbind hF
  have E_23 : qExt y43.2 R44 := qExt.pr (qwa_some eR44).2.symm
  have hW_23 : qWT R44 := hW_22.pr kr39_22 hz42_22 (qwa_some eR44).2.symm
  have ha0_23 : qok R44 a0 7 := ha0_22.ext E_23
  obtain ⟨r45, er45, hF⟩ := qbind hF
  have kr45 : qok R44 r45 11 := hW_23.get ha0_23 er45 rfl
  obtain ⟨I46, eI46, hF⟩ := qletE hF
  obtain ⟨R47, eR47, hF⟩ := qletE hF
  have hz48 : qok R47 R44.2.2.1 5 := qok.z eR47
  have E_24 : qExt R44 R47 := qExt.z eR47
  have hW_24 : qWT R47 := hW_23.z eR47
  have ha0_24 : qok R47 a0 7 := ha0_23.ext E_24
  have kr45_24 : qok R47 r45 11 := kr45.ext E_24
  obtain ⟨y49, ey49, hF⟩ := qbind hF
  have eX_25 := eX5_init hW_24 hz48 ey49
  have E_25 : qExt R47 y49.2 := eX_25.2
  have hW_25 : qWT y49.2 := eX_25.1
  have ha0_25 : qok y49.2 a0 7 := ha0_24.ext E_25
  have kr45_25 : qok y49.2 r45 11 := kr45_24.ext E_25
  have hz48_25 : qok y49.2 R44.2.2.1 5 := hz48.ext E_25
  obtain ⟨R50, eR50, hF⟩ := qbind hF
  have E_26 : qExt y49.2 R50 := qExt.pr (qwa_some eR50).2.symm
  have hW_26 : qWT R50 := hW_25.pr kr45_25 hz48_25 (qwa_some eR50).2.symm
  have ha0_26 : qok R50 a0 7 := ha0_25.ext E_26
  obtain ⟨r51, er51, hF⟩ := qbind hF
  have kr51 : qok R50 r51 11 := hW_26.get ha0_26 er51 rfl
  obtain ⟨I52, eI52, hF⟩ := qletE hF
  obtain ⟨R53, eR53, hF⟩ := qletE hF
  have hz54 : qok R53 R50.2.2.1 5 := qok.z eR53
  have E_27 : qExt R50 R53 := qExt.z eR53
  have hW_27 : qWT R53 := hW_26.z eR53
  have ha0_27 : qok R53 a0 7 := ha0_26.ext E_27
  have kr51_27 : qok R53 r51 11 := kr51.ext E_27
  obtain ⟨y55, ey55, hF⟩ := qbind hF
  have eX_28 := eX5_init hW_27 hz54 ey55
  have E_28 : qExt R53 y55.2 := eX_28.2
  have hW_28 : qWT y55.2 := eX_28.1
  have ha0_28 : qok y55.2 a0 7 := ha0_27.ext E_28
  have kr51_28 : qok y55.2 r51 11 := kr51_27.ext E_28
  have hz54_28 : qok y55.2 R50.2.2.1 5 := hz54.ext E_28
  obtain ⟨R56, eR56, hF⟩ := qbind hF
  have E_29 : qExt y55.2 R56 := qExt.pr (qwa_some eR56).2.symm
  have hW_29 : qWT R56 := hW_28.pr kr51_28 hz54_28 (qwa_some eR56).2.symm
  have ha0_29 : qok R56 a0 7 := ha0_28.ext E_29
  obtain ⟨r57, er57, hF⟩ := qbind hF
  have kr57 : qok R56 r57 11 := hW_29.get ha0_29 er57 rfl
  obtain ⟨I58, eI58, hF⟩ := qletE hF
  obtain ⟨R59, eR59, hF⟩ := qletE hF
  have hz60 : qok R59 R56.2.2.1 5 := qok.z eR59
  have E_30 : qExt R56 R59 := qExt.z eR59
  have hW_30 : qWT R59 := hW_29.z eR59
  have ha0_30 : qok R59 a0 7 := ha0_29.ext E_30
  have kr57_30 : qok R59 r57 11 := kr57.ext E_30
  obtain ⟨y61, ey61, hF⟩ := qbind hF
  have eX_31 := eX5_init hW_30 hz60 ey61
  have E_31 : qExt R59 y61.2 := eX_31.2
  have hW_31 : qWT y61.2 := eX_31.1
  have ha0_31 : qok y61.2 a0 7 := ha0_30.ext E_31
  have kr57_31 : qok y61.2 r57 11 := kr57_30.ext E_31
  have hz60_31 : qok y61.2 R56.2.2.1 5 := hz60.ext E_31
  obtain ⟨R62, eR62, hF⟩ := qbind hF
  have E_32 : qExt y61.2 R62 := qExt.pr (qwa_some eR62).2.symm
  have hW_32 : qWT R62 := hW_31.pr kr57_31 hz60_31 (qwa_some eR62).2.symm
  have ha0_32 : qok R62 a0 7 := ha0_31.ext E_32
  obtain ⟨r63, er63, hF⟩ := qbind hF
  have kr63 : qok R62 r63 11 := hW_32.get ha0_32 er63 rfl
  obtain ⟨I64, eI64, hF⟩ := qletE hF
  obtain ⟨R65, eR65, hF⟩ := qletE hF
  have hz66 : qok R65 R62.2.2.1 5 := qok.z eR65
  have E_33 : qExt R62 R65 := qExt.z eR65
  have hW_33 : qWT R65 := hW_32.z eR65
  have ha0_33 : qok R65 a0 7 := ha0_32.ext E_33
  have kr63_33 : qok R65 r63 11 := kr63.ext E_33
  obtain ⟨y67, ey67, hF⟩ := qbind hF
  have eX_34 := eX5_init hW_33 hz66 ey67
  have E_34 : qExt R65 y67.2 := eX_34.2
  have hW_34 : qWT y67.2 := eX_34.1
  have ha0_34 : qok y67.2 a0 7 := ha0_33.ext E_34
  have kr63_34 : qok y67.2 r63 11 := kr63_33.ext E_34
  have hz66_34 : qok y67.2 R62.2.2.1 5 := hz66.ext E_34
  obtain ⟨R68, eR68, hF⟩ := qbind hF
  have E_35 : qExt y67.2 R68 := qExt.pr (qwa_some eR68).2.symm
  have hW_35 : qWT R68 := hW_34.pr kr63_34 hz66_34 (qwa_some eR68).2.symm
  have ha0_35 : qok R68 a0 7 := ha0_34.ext E_35
  obtain ⟨r69, er69, hF⟩ := qbind hF
  have kr69 : qok R68 r69 11 := hW_35.get ha0_35 er69 rfl
  obtain ⟨I70, eI70, hF⟩ := qletE hF
  obtain ⟨R71, eR71, hF⟩ := qletE hF
  have hz72 : qok R71 R68.2.2.1 5 := qok.z eR71
  have E_36 : qExt R68 R71 := qExt.z eR71
  have hW_36 : qWT R71 := hW_35.z eR71
  have ha0_36 : qok R71 a0 7 := ha0_35.ext E_36
  have kr69_36 : qok R71 r69 11 := kr69.ext E_36
  obtain ⟨y73, ey73, hF⟩ := qbind hF
  have eX_37 := eX5_init hW_36 hz72 ey73
  have E_37 : qExt R71 y73.2 := eX_37.2
  have hW_37 : qWT y73.2 := eX_37.1
  have ha0_37 : qok y73.2 a0 7 := ha0_36.ext E_37
  have kr69_37 : qok y73.2 r69 11 := kr69_36.ext E_37
  have hz72_37 : qok y73.2 R68.2.2.1 5 := hz72.ext E_37
  obtain ⟨R74, eR74, hF⟩ := qbind hF
  have E_38 : qExt y73.2 R74 := qExt.pr (qwa_some eR74).2.symm
  have hW_38 : qWT R74 := hW_37.pr kr69_37 hz72_37 (qwa_some eR74).2.symm
  have ha0_38 : qok R74 a0 7 := ha0_37.ext E_38
  obtain ⟨r75, er75, hF⟩ := qbind hF
  have kr75 : qok R74 r75 11 := hW_38.get ha0_38 er75 rfl
  obtain ⟨I76, eI76, hF⟩ := qletE hF
  obtain ⟨R77, eR77, hF⟩ := qletE hF
  have hz78 : qok R77 R74.2.2.1 5 := qok.z eR77
  have E_39 : qExt R74 R77 := qExt.z eR77
  have hW_39 : qWT R77 := hW_38.z eR77
  have ha0_39 : qok R77 a0 7 := ha0_38.ext E_39
  have kr75_39 : qok R77 r75 11 := kr75.ext E_39
  obtain ⟨y79, ey79, hF⟩ := qbind hF
  have eX_40 := eX5_init hW_39 hz78 ey79
  have E_40 : qExt R77 y79.2 := eX_40.2
  have hW_40 : qWT y79.2 := eX_40.1
  have ha0_40 : qok y79.2 a0 7 := ha0_39.ext E_40
  have kr75_40 : qok y79.2 r75 11 := kr75_39.ext E_40
  have hz78_40 : qok y79.2 R74.2.2.1 5 := hz78.ext E_40
  obtain ⟨R80, eR80, hF⟩ := qbind hF
  have E_41 : qExt y79.2 R80 := qExt.pr (qwa_some eR80).2.symm
  have hW_41 : qWT R80 := hW_40.pr kr75_40 hz78_40 (qwa_some eR80).2.symm
  have ha0_41 : qok R80 a0 7 := ha0_40.ext E_41
  obtain ⟨rfl, rfl⟩ := qpair hF
  have hX_41 := qX_end hW_41
  have hX_40 := qx_trans E_41 hX_41
  have hX_39 := qx_trans E_40 hX_40
  have hX_38 := qx_trans E_39 hX_39
  have hX_37 := qx_trans E_38 hX_38
  have hX_36 := qx_trans E_37 hX_37
  have hX_35 := qx_trans E_36 hX_36
  have hX_34 := qx_trans E_35 hX_35
  have hX_33 := qx_trans E_34 hX_34
  have hX_32 := qx_trans E_33 hX_33
  have hX_31 := qx_trans E_32 hX_32
  have hX_30 := qx_trans E_31 hX_31
  have hX_29 := qx_trans E_30 hX_30
  have hX_28 := qx_trans E_29 hX_29
  have hX_27 := qx_trans E_28 hX_28
  have hX_26 := qx_trans E_27 hX_27
  have hX_25 := qx_trans E_26 hX_26
  have hX_24 := qx_trans E_25 hX_25
  have hX_23 := qx_trans E_24 hX_24
  have hX_22 := qx_trans E_23 hX_23
  have hX_21 := qx_trans E_22 hX_22
  have hX_20 := qx_trans E_21 hX_21
  have hX_19 := qx_trans E_20 hX_20
  have hX_18 := qx_trans E_19 hX_19
  have hX_17 := qx_trans E_18 hX_18
  have hX_16 := qx_trans E_17 hX_17
  have hX_15 := qx_trans E_16 hX_16
  have hX_14 := qx_trans E_15 hX_15
  have hX_13 := qx_trans E_14 hX_14
  have hX_12 := qx_trans E_13 hX_13
  have hX_11 := qx_trans E_12 hX_12
  have hX_10 := qx_trans E_11 hX_11
  have hX_9 := qx_trans E_10 hX_10
  have hX_8 := qx_trans E_9 hX_9
  have hX_7 := qx_trans E_8 hX_8
  have hX_6 := qx_trans E_7 hX_7
  have hX_5 := qx_trans E_6 hX_6
  have hX_4 := qx_trans E_5 hX_5
  have hX_3 := qx_trans E_4 hX_4
  have hX_2 := qx_trans E_3 hX_3
  have hX_1 := qx_trans E_2 hX_2
  have hX := qx_trans E_1 hX_1
  refine qMt_of (by decide) (Nat.le_of_ble_eq_true rfl) ⟨hX.2.1, hX.2.2.1⟩ ?_
  show AW _ 0 [(0, .ref (G.1 + a0))] [] I R
  refine aw_aload_n dX7_init_0 0 rfl rfl ?_
  refine aw_objInit cl_X7_3 cx_oi cx_oc rfl (Nat.le_of_ble_eq_true rfl) (Nat.le_of_ble_eq_true rfl) (Nat.le_of_ble_eq_true rfl) dX7_init_1 ?_
  refine aw_aload_n dX7_init_4 0 rfl rfl ?_
  refine aw_bipush (v := (10 : Int32)) dX7_init_5 (by decide) ?_
  refine aw_newtq cc_X7_9 (by decide) (by decide) (by decide) eI1 eR2 hX_1.2 rfl dX7_init_7 ?_
  refine aw_putFq fl_X7_11 (by decide) fs_X7_0 fn_X7_0 ft_X7_0 fo_X7 rfl ha0_1 eR4 rfl dX7_init_10 ?_
  refine aw_aload_n dX7_init_13 0 rfl rfl ?_
  refine aw_newq nw_X7_15 eI5 eR6 hX_3.2 rfl dX7_init_14 ?_
  refine aw_dup dX7_init_17 rfl ?_
  refine aw_callIN (As := []) (sX3_init hW_3 hz7 ey8) cl_X7_17 rfl (qroomH (by decide) (by decide) hX_4.2) rfl (Nat.le_of_ble_eq_true rfl) dX7_init_18 rfl ?_
  refine aw_putFq fl_X7_18 (by decide) fs_X7_1 fn_X7_1 ft_X7_1 fo_X7 rfl ha0_4 eR9 rfl dX7_init_21 ?_
  refine aw_aload_n dX7_init_24 0 rfl rfl ?_
  refine aw_newq nw_X7_22 eI10 eR11 hX_6.2 rfl dX7_init_25 ?_
  refine aw_dup dX7_init_28 rfl ?_
  refine aw_callI (As := []) (sX4_init hW_6 hz12 ey13) cl_X7_24 rfl (qroomH (by decide) (by decide) hX_7.2) rfl (Nat.le_of_ble_eq_true rfl) dX7_init_29 rfl ?_
  refine aw_putFq fl_X7_25 (by decide) fs_X7_2 fn_X7_2 ft_X7_2 fo_X7 rfl ha0_7 eR14 rfl dX7_init_32 ?_
  refine aw_aload_n dX7_init_35 0 rfl rfl ?_
  refine aw_newq nw_X7_29 eI15 eR16 hX_9.2 rfl dX7_init_36 ?_
  refine aw_dup dX7_init_39 rfl ?_
  refine aw_callIN (As := []) (sX6_init hW_9 hz17 ey18) cl_X7_31 rfl (qroomH (by decide) (by decide) hX_10.2) rfl (Nat.le_of_ble_eq_true rfl) dX7_init_40 rfl ?_
  refine aw_putFq fl_X7_32 (by decide) fs_X7_3 fn_X7_3 ft_X7_3 fo_X7 rfl ha0_10 eR19 rfl dX7_init_43 ?_
  refine aw_aload_n dX7_init_46 0 rfl rfl ?_
  refine aw_iconst (v := (5 : Int32)) dX7_init_47 (by decide) ?_
  refine aw_putiq fl_X7_36 (by decide) fs_X7_5 fn_X7_5 ft_X7_5 ha0_11 eI20 rfl dX7_init_48 ?_
  refine aw_iconst (v := (0 : Int32)) dX7_init_51 (by decide) ?_
  refine aw_istore_n (lv' := [(1, .int (0 : Int32)), (0, .ref (G.1 + a0))]) dX7_init_52 rfl (Nat.le_of_ble_eq_true rfl) rfl ?_
  refine aw_iload_n dX7_init_53 0 rfl rfl ?_
  refine aw_bipush (v := (10 : Int32)) dX7_init_54 (by decide) ?_
  refine aw_icmp_ge (tgt := 78) dX7_init_56 (by decide) (fun c => absurd c (by decide)) (fun c => ?_)
  refine aw_aload_n dX7_init_59 1 rfl rfl ?_
  refine aw_getr fl_X7_11 (by decide) fg_X7_0 ha0_11 er21 rfl dX7_init_60 ?_
  refine aw_iload_n dX7_init_63 0 rfl rfl ?_
  refine aw_newq nw_X7_9 eI22 eR23 hX_12.2 rfl dX7_init_64 ?_
  refine aw_dup dX7_init_67 rfl ?_
  refine aw_callI (As := []) (sX5_init hW_12 hz24 ey25) cl_X7_40 rfl (qroomH (by decide) (by decide) hX_13.2) rfl (Nat.le_of_ble_eq_true rfl) dX7_init_68 rfl ?_
  refine aw_aastq kr21_13 eR26 hz24_13 dX7_init_71 ?_
  refine aw_iinc (q := 0) (v := (1 : Int32)) (lv' := [(1, .int (1 : Int32)), (0, .ref (G.1 + a0))]) dX7_init_72 rfl (by decide) (Nat.le_of_ble_eq_true rfl) rfl ?_
  refine aw_goto (tgt := 53) dX7_init_75 (by decide) ?_
  refine aw_iload_n dX7_init_53 0 rfl rfl ?_
  refine aw_bipush (v := (10 : Int32)) dX7_init_54 (by decide) ?_
  refine aw_icmp_ge (tgt := 78) dX7_init_56 (by decide) (fun c => absurd c (by decide)) (fun c => ?_)
  refine aw_aload_n dX7_init_59 1 rfl rfl ?_
  refine aw_getr fl_X7_11 (by decide) fg_X7_0 ha0_14 er27 rfl dX7_init_60 ?_
  refine aw_iload_n dX7_init_63 0 rfl rfl ?_
  refine aw_newq nw_X7_9 eI28 eR29 hX_15.2 rfl dX7_init_64 ?_
  refine aw_dup dX7_init_67 rfl ?_
  refine aw_callI (As := []) (sX5_init hW_15 hz30 ey31) cl_X7_40 rfl (qroomH (by decide) (by decide) hX_16.2) rfl (Nat.le_of_ble_eq_true rfl) dX7_init_68 rfl ?_
  refine aw_aastq kr27_16 eR32 hz30_16 dX7_init_71 ?_
  refine aw_iinc (q := 0) (v := (2 : Int32)) (lv' := [(1, .int (2 : Int32)), (0, .ref (G.1 + a0))]) dX7_init_72 rfl (by decide) (Nat.le_of_ble_eq_true rfl) rfl ?_
  refine aw_goto (tgt := 53) dX7_init_75 (by decide) ?_
  refine aw_iload_n dX7_init_53 0 rfl rfl ?_
  refine aw_bipush (v := (10 : Int32)) dX7_init_54 (by decide) ?_
  refine aw_icmp_ge (tgt := 78) dX7_init_56 (by decide) (fun c => absurd c (by decide)) (fun c => ?_)
  refine aw_aload_n dX7_init_59 1 rfl rfl ?_
  refine aw_getr fl_X7_11 (by decide) fg_X7_0 ha0_17 er33 rfl dX7_init_60 ?_
  refine aw_iload_n dX7_init_63 0 rfl rfl ?_
  refine aw_newq nw_X7_9 eI34 eR35 hX_18.2 rfl dX7_init_64 ?_
  refine aw_dup dX7_init_67 rfl ?_
  refine aw_callI (As := []) (sX5_init hW_18 hz36 ey37) cl_X7_40 rfl (qroomH (by decide) (by decide) hX_19.2) rfl (Nat.le_of_ble_eq_true rfl) dX7_init_68 rfl ?_
  refine aw_aastq kr33_19 eR38 hz36_19 dX7_init_71 ?_
  refine aw_iinc (q := 0) (v := (3 : Int32)) (lv' := [(1, .int (3 : Int32)), (0, .ref (G.1 + a0))]) dX7_init_72 rfl (by decide) (Nat.le_of_ble_eq_true rfl) rfl ?_
  refine aw_goto (tgt := 53) dX7_init_75 (by decide) ?_
  refine aw_iload_n dX7_init_53 0 rfl rfl ?_
  refine aw_bipush (v := (10 : Int32)) dX7_init_54 (by decide) ?_
  refine aw_icmp_ge (tgt := 78) dX7_init_56 (by decide) (fun c => absurd c (by decide)) (fun c => ?_)
  refine aw_aload_n dX7_init_59 1 rfl rfl ?_
  refine aw_getr fl_X7_11 (by decide) fg_X7_0 ha0_20 er39 rfl dX7_init_60 ?_
  refine aw_iload_n dX7_init_63 0 rfl rfl ?_
  refine aw_newq nw_X7_9 eI40 eR41 hX_21.2 rfl dX7_init_64 ?_
  refine aw_dup dX7_init_67 rfl ?_
  refine aw_callI (As := []) (sX5_init hW_21 hz42 ey43) cl_X7_40 rfl (qroomH (by decide) (by decide) hX_22.2) rfl (Nat.le_of_ble_eq_true rfl) dX7_init_68 rfl ?_
  refine aw_aastq kr39_22 eR44 hz42_22 dX7_init_71 ?_
  refine aw_iinc (q := 0) (v := (4 : Int32)) (lv' := [(1, .int (4 : Int32)), (0, .ref (G.1 + a0))]) dX7_init_72 rfl (by decide) (Nat.le_of_ble_eq_true rfl) rfl ?_
  refine aw_goto (tgt := 53) dX7_init_75 (by decide) ?_
  refine aw_iload_n dX7_init_53 0 rfl rfl ?_
  refine aw_bipush (v := (10 : Int32)) dX7_init_54 (by decide) ?_
  refine aw_icmp_ge (tgt := 78) dX7_init_56 (by decide) (fun c => absurd c (by decide)) (fun c => ?_)
  refine aw_aload_n dX7_init_59 1 rfl rfl ?_
  refine aw_getr fl_X7_11 (by decide) fg_X7_0 ha0_23 er45 rfl dX7_init_60 ?_
  refine aw_iload_n dX7_init_63 0 rfl rfl ?_
  refine aw_newq nw_X7_9 eI46 eR47 hX_24.2 rfl dX7_init_64 ?_
  refine aw_dup dX7_init_67 rfl ?_
  refine aw_callI (As := []) (sX5_init hW_24 hz48 ey49) cl_X7_40 rfl (qroomH (by decide) (by decide) hX_25.2) rfl (Nat.le_of_ble_eq_true rfl) dX7_init_68 rfl ?_
  refine aw_aastq kr45_25 eR50 hz48_25 dX7_init_71 ?_
  refine aw_iinc (q := 0) (v := (5 : Int32)) (lv' := [(1, .int (5 : Int32)), (0, .ref (G.1 + a0))]) dX7_init_72 rfl (by decide) (Nat.le_of_ble_eq_true rfl) rfl ?_
  refine aw_goto (tgt := 53) dX7_init_75 (by decide) ?_
  refine aw_iload_n dX7_init_53 0 rfl rfl ?_
  refine aw_bipush (v := (10 : Int32)) dX7_init_54 (by decide) ?_
  refine aw_icmp_ge (tgt := 78) dX7_init_56 (by decide) (fun c => absurd c (by decide)) (fun c => ?_)
  refine aw_aload_n dX7_init_59 1 rfl rfl ?_
  refine aw_getr fl_X7_11 (by decide) fg_X7_0 ha0_26 er51 rfl dX7_init_60 ?_
  refine aw_iload_n dX7_init_63 0 rfl rfl ?_
  refine aw_newq nw_X7_9 eI52 eR53 hX_27.2 rfl dX7_init_64 ?_
  refine aw_dup dX7_init_67 rfl ?_
  refine aw_callI (As := []) (sX5_init hW_27 hz54 ey55) cl_X7_40 rfl (qroomH (by decide) (by decide) hX_28.2) rfl (Nat.le_of_ble_eq_true rfl) dX7_init_68 rfl ?_
  refine aw_aastq kr51_28 eR56 hz54_28 dX7_init_71 ?_
  refine aw_iinc (q := 0) (v := (6 : Int32)) (lv' := [(1, .int (6 : Int32)), (0, .ref (G.1 + a0))]) dX7_init_72 rfl (by decide) (Nat.le_of_ble_eq_true rfl) rfl ?_
  refine aw_goto (tgt := 53) dX7_init_75 (by decide) ?_
  refine aw_iload_n dX7_init_53 0 rfl rfl ?_
  refine aw_bipush (v := (10 : Int32)) dX7_init_54 (by decide) ?_
  refine aw_icmp_ge (tgt := 78) dX7_init_56 (by decide) (fun c => absurd c (by decide)) (fun c => ?_)
  refine aw_aload_n dX7_init_59 1 rfl rfl ?_
  refine aw_getr fl_X7_11 (by decide) fg_X7_0 ha0_29 er57 rfl dX7_init_60 ?_
  refine aw_iload_n dX7_init_63 0 rfl rfl ?_
  refine aw_newq nw_X7_9 eI58 eR59 hX_30.2 rfl dX7_init_64 ?_
  refine aw_dup dX7_init_67 rfl ?_
  refine aw_callI (As := []) (sX5_init hW_30 hz60 ey61) cl_X7_40 rfl (qroomH (by decide) (by decide) hX_31.2) rfl (Nat.le_of_ble_eq_true rfl) dX7_init_68 rfl ?_
  refine aw_aastq kr57_31 eR62 hz60_31 dX7_init_71 ?_
  refine aw_iinc (q := 0) (v := (7 : Int32)) (lv' := [(1, .int (7 : Int32)), (0, .ref (G.1 + a0))]) dX7_init_72 rfl (by decide) (Nat.le_of_ble_eq_true rfl) rfl ?_
  refine aw_goto (tgt := 53) dX7_init_75 (by decide) ?_
  refine aw_iload_n dX7_init_53 0 rfl rfl ?_
  refine aw_bipush (v := (10 : Int32)) dX7_init_54 (by decide) ?_
  refine aw_icmp_ge (tgt := 78) dX7_init_56 (by decide) (fun c => absurd c (by decide)) (fun c => ?_)
  refine aw_aload_n dX7_init_59 1 rfl rfl ?_
  refine aw_getr fl_X7_11 (by decide) fg_X7_0 ha0_32 er63 rfl dX7_init_60 ?_
  refine aw_iload_n dX7_init_63 0 rfl rfl ?_
  refine aw_newq nw_X7_9 eI64 eR65 hX_33.2 rfl dX7_init_64 ?_
  refine aw_dup dX7_init_67 rfl ?_
  refine aw_callI (As := []) (sX5_init hW_33 hz66 ey67) cl_X7_40 rfl (qroomH (by decide) (by decide) hX_34.2) rfl (Nat.le_of_ble_eq_true rfl) dX7_init_68 rfl ?_
  refine aw_aastq kr63_34 eR68 hz66_34 dX7_init_71 ?_
  refine aw_iinc (q := 0) (v := (8 : Int32)) (lv' := [(1, .int (8 : Int32)), (0, .ref (G.1 + a0))]) dX7_init_72 rfl (by decide) (Nat.le_of_ble_eq_true rfl) rfl ?_
  refine aw_goto (tgt := 53) dX7_init_75 (by decide) ?_
  refine aw_iload_n dX7_init_53 0 rfl rfl ?_
  refine aw_bipush (v := (10 : Int32)) dX7_init_54 (by decide) ?_
  refine aw_icmp_ge (tgt := 78) dX7_init_56 (by decide) (fun c => absurd c (by decide)) (fun c => ?_)
  refine aw_aload_n dX7_init_59 1 rfl rfl ?_
  refine aw_getr fl_X7_11 (by decide) fg_X7_0 ha0_35 er69 rfl dX7_init_60 ?_
  refine aw_iload_n dX7_init_63 0 rfl rfl ?_
  refine aw_newq nw_X7_9 eI70 eR71 hX_36.2 rfl dX7_init_64 ?_
  refine aw_dup dX7_init_67 rfl ?_
  refine aw_callI (As := []) (sX5_init hW_36 hz72 ey73) cl_X7_40 rfl (qroomH (by decide) (by decide) hX_37.2) rfl (Nat.le_of_ble_eq_true rfl) dX7_init_68 rfl ?_
  refine aw_aastq kr69_37 eR74 hz72_37 dX7_init_71 ?_
  refine aw_iinc (q := 0) (v := (9 : Int32)) (lv' := [(1, .int (9 : Int32)), (0, .ref (G.1 + a0))]) dX7_init_72 rfl (by decide) (Nat.le_of_ble_eq_true rfl) rfl ?_
  refine aw_goto (tgt := 53) dX7_init_75 (by decide) ?_
  refine aw_iload_n dX7_init_53 0 rfl rfl ?_
  refine aw_bipush (v := (10 : Int32)) dX7_init_54 (by decide) ?_
  refine aw_icmp_ge (tgt := 78) dX7_init_56 (by decide) (fun c => absurd c (by decide)) (fun c => ?_)
  refine aw_aload_n dX7_init_59 1 rfl rfl ?_
  refine aw_getr fl_X7_11 (by decide) fg_X7_0 ha0_38 er75 rfl dX7_init_60 ?_
  refine aw_iload_n dX7_init_63 0 rfl rfl ?_
  refine aw_newq nw_X7_9 eI76 eR77 hX_39.2 rfl dX7_init_64 ?_
  refine aw_dup dX7_init_67 rfl ?_
  refine aw_callI (As := []) (sX5_init hW_39 hz78 ey79) cl_X7_40 rfl (qroomH (by decide) (by decide) hX_40.2) rfl (Nat.le_of_ble_eq_true rfl) dX7_init_68 rfl ?_
  refine aw_aastq kr75_40 eR80 hz78_40 dX7_init_71 ?_
  refine aw_iinc (q := 0) (v := (10 : Int32)) (lv' := [(1, .int (10 : Int32)), (0, .ref (G.1 + a0))]) dX7_init_72 rfl (by decide) (Nat.le_of_ble_eq_true rfl) rfl ?_
  refine aw_goto (tgt := 53) dX7_init_75 (by decide) ?_
  refine aw_iload_n dX7_init_53 0 rfl rfl ?_
  refine aw_bipush (v := (10 : Int32)) dX7_init_54 (by decide) ?_
  refine aw_icmp_ge (tgt := 78) dX7_init_56 (by decide) (fun c => ?_) (fun c => absurd c (by decide))
  exact aw_vret rfl dX7_init_78 rfl rfl rfl
