def fX7_table (N : Nat) (R : qR) (I : qI) (a0 : Nat) (p1 : Int32) : Option (Int32 × qI × qR) :=
  (fX7_canBeTable N R I a0 p1).bind fun y1 =>
  if y1 = 0 then
    (some ((-1 : Int32), I, R))
  else
    ((R.1 a0 2).bind fun r3 =>
    (R.1 a0 0).bind fun r4 =>
    (fX4_make N R I r3 r4 p1).bind fun y5 =>
    (y5.2.1 a0 2).bind fun r6 =>
    (fX4_rowCount y5.2 y5.1 r6).bind fun y7 =>
    some (y7, y5.1, y5.2))
set_option maxHeartbeats 4000000 in
set_option maxRecDepth 100000 in
theorem eX7_table {N : Nat} {R : qR} {I : qI} {a0 : Nat} {p1 : Int32} {rv : Int32} {rI : qI} {rR : qR} (hW : qWT R) (ha0 : qok R a0 7) (hF : fX7_table N R I a0 p1 = some (rv, rI, rR)) : qWT rR ∧ qExt R rR := by
  unfold fX7_table at hF
  obtain ⟨y1, ey1, hF⟩ := qbind hF
  by_cases c2 : y1 = 0
  · rw [if_pos c2] at hF
    cases hF
    exact ⟨hW, qExt.rf⟩
  · rw [if_neg c2] at hF
    obtain ⟨r3, er3, hF⟩ := qbind hF
    have kr3 : qok R r3 4 := hW.get ha0 er3 rfl
    obtain ⟨r4, er4, hF⟩ := qbind hF
    have kr4 : qok R r4 11 := hW.get ha0 er4 rfl
    obtain ⟨y5, ey5, hF⟩ := qbind hF
    have eX := eX4_make hW kr3 kr4 ey5
    have E : qExt R y5.2 := eX.2
    have hW : qWT y5.2 := eX.1
    have ha0 : qok y5.2 a0 7 := ha0.ext E
    refine qx_trans E ?_
    obtain ⟨r6, er6, hF⟩ := qbind hF
    have kr6 : qok y5.2 r6 4 := hW.get ha0 er6 rfl
    obtain ⟨y7, ey7, hF⟩ := qbind hF
    cases hF
    exact ⟨hW, qExt.rf⟩
set_option maxHeartbeats 4000000 in
set_option maxRecDepth 100000 in
theorem sX7_table {l : Launch} {G : qG} {N : Nat} {R : qR} {I : qI} {a0 : Nat} {p1 : Int32} {rv : Int32} {rI : qI} {rR : qR} (hW : qWT R) (ha0 : qok R a0 7) (hF : fX7_table N R I a0 p1 = some (rv, rI, rR)) : qMt l G mX7_table 57 [.ref (G.1 + a0), .int p1] I R (some (.int rv)) rI rR := by
  have hX := eX7_table hW ha0 hF
  unfold fX7_table at hF
  refine qMt_of (by decide) (Nat.le_of_ble_eq_true rfl) ⟨hX.2.1, hX.2.2.1⟩ ?_
  show AW _ 0 [(0, .ref (G.1 + a0)), (1, .int p1)] [] I R
  refine aw_aload_n dX7_table_0 0 rfl rfl ?_
  refine aw_iload_n dX7_table_1 1 rfl rfl ?_
  obtain ⟨y1, ey1, hF⟩ := qbind hF
  refine aw_callVi (As := [.int p1]) (sX7_canBeTable hW ha0 ey1) cl_X7_98 rfl (qroomH (by decide) (by decide) hX.2) rfl ha0 (Nat.le_of_ble_eq_true rfl) dX7_table_2 rfl ?_
  refine aw_if_ne (tgt := 10) dX7_table_5 (by decide) (fun c2 => ?_) (fun c2 => ?_)
  · rw [if_neg c2] at hF
    refine aw_aload_n dX7_table_10 0 rfl rfl ?_
    obtain ⟨r3, er3, hF⟩ := qbind hF
    have kr3 : qok R r3 4 := hW.get ha0 er3 rfl
    refine aw_getr fl_X7_25 (by decide) fg_X7_2 ha0 er3 rfl dX7_table_11 ?_
    refine aw_aload_n dX7_table_14 0 rfl rfl ?_
    obtain ⟨r4, er4, hF⟩ := qbind hF
    have kr4 : qok R r4 11 := hW.get ha0 er4 rfl
    refine aw_getr fl_X7_11 (by decide) fg_X7_0 ha0 er4 rfl dX7_table_15 ?_
    refine aw_iload_n dX7_table_18 1 rfl rfl ?_
    obtain ⟨y5, ey5, hF⟩ := qbind hF
    have eX := eX4_make hW kr3 kr4 ey5
    have hM := fun {l : Launch} {G : qG} => sX4_make (l := l) (G := G) hW kr3 kr4 ey5
    have hrec0 := kr3
    have E : qExt R y5.2 := eX.2
    have hW : qWT y5.2 := eX.1
    have ha0 : qok y5.2 a0 7 := ha0.ext E
    have hX : qWT rR ∧ qExt y5.2 rR := by
      obtain ⟨r6, er6, hF⟩ := qbind hF
      have kr6 : qok y5.2 r6 4 := hW.get ha0 er6 rfl
      obtain ⟨y7, ey7, hF⟩ := qbind hF
      cases hF
      exact ⟨hW, qExt.rf⟩
    refine aw_callVv (As := [.ref (G.1 + r4), .int p1]) hM cl_X7_101 rfl (qroomH (by decide) (by decide) hX.2) rfl hrec0 (Nat.le_of_ble_eq_true rfl) dX7_table_19 rfl ?_
    refine aw_aload_n dX7_table_22 0 rfl rfl ?_
    obtain ⟨r6, er6, hF⟩ := qbind hF
    have kr6 : qok y5.2 r6 4 := hW.get ha0 er6 rfl
    refine aw_getr fl_X7_25 (by decide) fg_X7_2 ha0 er6 rfl dX7_table_23 ?_
    obtain ⟨y7, ey7, hF⟩ := qbind hF
    refine aw_callVi (As := []) (sX4_rowCount hW kr6 ey7) cl_X7_105 rfl (qroomH (by decide) (by decide) hX.2) rfl kr6 (Nat.le_of_ble_eq_true rfl) dX7_table_26 rfl ?_
    cases hF
    exact aw_iret rfl dX7_table_29 rfl rfl rfl
  · rw [if_pos c2] at hF
    refine aw_iconst (v := (-1 : Int32)) dX7_table_8 (by decide) ?_
    cases hF
    exact aw_iret rfl dX7_table_9 rfl rfl rfl
def fX7_way (N : Nat) (R : qR) (I : qI) (a0 : Nat) (p1 : Int32) (p2 : Int32) (p3 : Int32) (p4 : Int32) (p5 : Int32) : Option (Int32 × qI × qR) :=
  (fX7_canTravel R I p1 p2 p3).bind fun y1 =>
  if y1 = 0 then
    (some ((-1 : Int32), I, R))
  else
    (if p4 < 0 then
      (some ((-1 : Int32), I, R))
    else
      (if p4 < (1440 : Int32) then
        ((R.1 a0 3).bind fun r5 =>
        (R.1 a0 0).bind fun r6 =>
        (fX6_setOut R I r5 r6 (I a0 4) p3 (I a0 5)).bind fun y7 =>
        (y7.2.1 a0 3).bind fun r8 =>
        (fX6_findBest N y7.2 y7.1 r8 p1 p2 p4).bind fun y9 =>
        if y9.1 = 0 then
          (some ((-1 : Int32), y9.2, y7.2))
        else
          ((fX6_read y7.2 y9.2 r8 p5).bind fun y11 =>
          some (y11, y9.2, y7.2)))
      else
        (some ((-1 : Int32), I, R))))
set_option maxHeartbeats 4000000 in
set_option maxRecDepth 100000 in
theorem eX7_way {N : Nat} {R : qR} {I : qI} {a0 : Nat} {p1 : Int32} {p2 : Int32} {p3 : Int32} {p4 : Int32} {p5 : Int32} {rv : Int32} {rI : qI} {rR : qR} (hW : qWT R) (ha0 : qok R a0 7) (hF : fX7_way N R I a0 p1 p2 p3 p4 p5 = some (rv, rI, rR)) : qWT rR ∧ qExt R rR := by
  unfold fX7_way at hF
  obtain ⟨y1, ey1, hF⟩ := qbind hF
  by_cases c2 : y1 = 0
  · rw [if_pos c2] at hF
    cases hF
    exact ⟨hW, qExt.rf⟩
  · rw [if_neg c2] at hF
    by_cases c3 : p4 < 0
    · rw [if_pos c3] at hF
      cases hF
      exact ⟨hW, qExt.rf⟩
    · rw [if_neg c3] at hF
      by_cases c4 : p4 < (1440 : Int32)
      · rw [if_pos c4] at hF
        obtain ⟨r5, er5, hF⟩ := qbind hF
        have kr5 : qok R r5 6 := hW.get ha0 er5 rfl
        obtain ⟨r6, er6, hF⟩ := qbind hF
        have kr6 : qok R r6 11 := hW.get ha0 er6 rfl
        obtain ⟨y7, ey7, hF⟩ := qbind hF
        have eX := eX6_setOut hW kr5 kr6 ey7
        have E : qExt R y7.2 := eX.2
        have hW : qWT y7.2 := eX.1
        have ha0 : qok y7.2 a0 7 := ha0.ext E
        refine qx_trans E ?_
        obtain ⟨r8, er8, hF⟩ := qbind hF
        have kr8 : qok y7.2 r8 6 := hW.get ha0 er8 rfl
        obtain ⟨y9, ey9, hF⟩ := qbind hF
        by_cases c10 : y9.1 = 0
        · rw [if_pos c10] at hF
          cases hF
          exact ⟨hW, qExt.rf⟩
        · rw [if_neg c10] at hF
          obtain ⟨y11, ey11, hF⟩ := qbind hF
          cases hF
          exact ⟨hW, qExt.rf⟩
      · rw [if_neg c4] at hF
        cases hF
        exact ⟨hW, qExt.rf⟩
set_option maxHeartbeats 4000000 in
set_option maxRecDepth 100000 in
theorem sX7_way {l : Launch} {G : qG} {N : Nat} {R : qR} {I : qI} {a0 : Nat} {p1 : Int32} {p2 : Int32} {p3 : Int32} {p4 : Int32} {p5 : Int32} {rv : Int32} {rI : qI} {rR : qR} (hW : qWT R) (ha0 : qok R a0 7) (hF : fX7_way N R I a0 p1 p2 p3 p4 p5 = some (rv, rI, rR)) : qMt l G mX7_way 6 [.ref (G.1 + a0), .int p1, .int p2, .int p3, .int p4, .int p5] I R (some (.int rv)) rI rR := by
  have hX := eX7_way hW ha0 hF
  unfold fX7_way at hF
  refine qMt_of (by decide) (Nat.le_of_ble_eq_true rfl) ⟨hX.2.1, hX.2.2.1⟩ ?_
  show AW _ 0 [(0, .ref (G.1 + a0)), (1, .int p1), (2, .int p2), (3, .int p3), (4, .int p4), (5, .int p5)] [] I R
  refine aw_iload_n dX7_way_0 1 rfl rfl ?_
  refine aw_iload_n dX7_way_1 2 rfl rfl ?_
  refine aw_iload_n dX7_way_2 3 rfl rfl ?_
  obtain ⟨y1, ey1, hF⟩ := qbind hF
  refine aw_callSi (sX7_canTravel hW  ey1) cl_X7_143 rfl (qroomH (by decide) (by decide) hX.2) rfl (Nat.le_of_ble_eq_true rfl) dX7_way_3 rfl ?_
  refine aw_if_eq (tgt := 22) dX7_way_6 (by decide) (fun c2 => ?_) (fun c2 => ?_)
  · rw [if_pos c2] at hF
    refine aw_iconst (v := (-1 : Int32)) dX7_way_22 (by decide) ?_
    cases hF
    exact aw_iret rfl dX7_way_23 rfl rfl rfl
  · rw [if_neg c2] at hF
    refine aw_iload dX7_way_9 4 rfl ?_
    refine aw_if_lt (tgt := 22) dX7_way_11 (by decide) (fun c3 => ?_) (fun c3 => ?_)
    · rw [if_pos c3] at hF
      refine aw_iconst (v := (-1 : Int32)) dX7_way_22 (by decide) ?_
      cases hF
      exact aw_iret rfl dX7_way_23 rfl rfl rfl
    · rw [if_neg c3] at hF
      refine aw_iload dX7_way_14 4 rfl ?_
      refine aw_sipush (v := (1440 : Int32)) dX7_way_16 (by decide) ?_
      refine aw_icmp_lt (tgt := 24) dX7_way_19 (by decide) (fun c4 => ?_) (fun c4 => ?_)
      · rw [if_pos c4] at hF
        refine aw_aload_n dX7_way_24 0 rfl rfl ?_
        obtain ⟨r5, er5, hF⟩ := qbind hF
        have kr5 : qok R r5 6 := hW.get ha0 er5 rfl
        refine aw_getr fl_X7_32 (by decide) fg_X7_3 ha0 er5 rfl dX7_way_25 ?_
        refine aw_aload_n dX7_way_28 0 rfl rfl ?_
        obtain ⟨r6, er6, hF⟩ := qbind hF
        have kr6 : qok R r6 11 := hW.get ha0 er6 rfl
        refine aw_getr fl_X7_11 (by decide) fg_X7_0 ha0 er6 rfl dX7_way_29 ?_
        refine aw_aload_n dX7_way_32 0 rfl rfl ?_
        refine aw_geti fl_X7_45 (by decide) fg_X7_4 ha0 rfl dX7_way_33 ?_
        refine aw_iload_n dX7_way_36 3 rfl rfl ?_
        refine aw_aload_n dX7_way_37 0 rfl rfl ?_
        refine aw_geti fl_X7_36 (by decide) fg_X7_5 ha0 rfl dX7_way_38 ?_
        obtain ⟨y7, ey7, hF⟩ := qbind hF
        have eX := eX6_setOut hW kr5 kr6 ey7
        have hM := fun {l : Launch} {G : qG} => sX6_setOut (l := l) (G := G) hW kr5 kr6 ey7
        have hrec0 := kr5
        have E : qExt R y7.2 := eX.2
        have hW : qWT y7.2 := eX.1
        have ha0 : qok y7.2 a0 7 := ha0.ext E
        have hX : qWT rR ∧ qExt y7.2 rR := by
          obtain ⟨r8, er8, hF⟩ := qbind hF
          have kr8 : qok y7.2 r8 6 := hW.get ha0 er8 rfl
          obtain ⟨y9, ey9, hF⟩ := qbind hF
          by_cases c10 : y9.1 = 0
          · rw [if_pos c10] at hF
            cases hF
            exact ⟨hW, qExt.rf⟩
          · rw [if_neg c10] at hF
            obtain ⟨y11, ey11, hF⟩ := qbind hF
            cases hF
            exact ⟨hW, qExt.rf⟩
        refine aw_callVv (As := [.ref (G.1 + r6), .int (I a0 4), .int p3, .int (I a0 5)]) hM cl_X7_146 rfl (qroomH (by decide) (by decide) hX.2) rfl hrec0 (Nat.le_of_ble_eq_true rfl) dX7_way_41 rfl ?_
        refine aw_aload_n dX7_way_44 0 rfl rfl ?_
        obtain ⟨r8, er8, hF⟩ := qbind hF
        have kr8 : qok y7.2 r8 6 := hW.get ha0 er8 rfl
        refine aw_getr fl_X7_32 (by decide) fg_X7_3 ha0 er8 rfl dX7_way_45 ?_
        refine aw_iload_n dX7_way_48 1 rfl rfl ?_
        refine aw_iload_n dX7_way_49 2 rfl rfl ?_
        refine aw_iload dX7_way_50 4 rfl ?_
        obtain ⟨y9, ey9, hF⟩ := qbind hF
        refine aw_callVi (As := [.int p1, .int p2, .int p4]) (sX6_findBest hW kr8 ey9) cl_X7_150 rfl (qroomH (by decide) (by decide) hX.2) rfl kr8 (Nat.le_of_ble_eq_true rfl) dX7_way_52 rfl ?_
        refine aw_if_eq (tgt := 70) dX7_way_55 (by decide) (fun c10 => ?_) (fun c10 => ?_)
        · rw [if_pos c10] at hF
          refine aw_iconst (v := (-1 : Int32)) dX7_way_70 (by decide) ?_
          cases hF
          exact aw_iret rfl dX7_way_71 rfl rfl rfl
        · rw [if_neg c10] at hF
          refine aw_aload_n dX7_way_58 0 rfl rfl ?_
          refine aw_getr fl_X7_32 (by decide) fg_X7_3 ha0 er8 rfl dX7_way_59 ?_
          refine aw_iload dX7_way_62 5 rfl ?_
          obtain ⟨y11, ey11, hF⟩ := qbind hF
          refine aw_callVi (As := [.int p5]) (sX6_read hW kr8 ey11) cl_X7_153 rfl (qroomH (by decide) (by decide) hX.2) rfl kr8 (Nat.le_of_ble_eq_true rfl) dX7_way_64 rfl ?_
          refine aw_goto (tgt := 71) dX7_way_67 (by decide) ?_
          cases hF
          exact aw_iret rfl dX7_way_71 rfl rfl rfl
      · rw [if_neg c4] at hF
        refine aw_iconst (v := (-1 : Int32)) dX7_way_22 (by decide) ?_
        cases hF
        exact aw_iret rfl dX7_way_23 rfl rfl rfl
def fX7_departures (N : Nat) (R : qR) (I : qI) (a0 : Nat) (p1 : Int32) (p2 : Int32) (p3 : Int32) : Option (Int32 × qI × qR) :=
  (fX7_canTravel R I p1 p2 p3).bind fun y1 =>
  if y1 = 0 then
    (some ((-1 : Int32), I, R))
  else
    ((R.1 a0 3).bind fun r3 =>
    (R.1 a0 0).bind fun r4 =>
    (fX6_setOut R I r3 r4 (I a0 4) p3 (I a0 5)).bind fun y5 =>
    (y5.2.1 a0 3).bind fun r6 =>
    (fX6_findDepartures N y5.2 y5.1 r6 p1 p2).bind fun y7 =>
    some (y7.1, y7.2, y5.2))
set_option maxHeartbeats 4000000 in
set_option maxRecDepth 100000 in
theorem eX7_departures {N : Nat} {R : qR} {I : qI} {a0 : Nat} {p1 : Int32} {p2 : Int32} {p3 : Int32} {rv : Int32} {rI : qI} {rR : qR} (hW : qWT R) (ha0 : qok R a0 7) (hF : fX7_departures N R I a0 p1 p2 p3 = some (rv, rI, rR)) : qWT rR ∧ qExt R rR := by
  unfold fX7_departures at hF
  obtain ⟨y1, ey1, hF⟩ := qbind hF
  by_cases c2 : y1 = 0
  · rw [if_pos c2] at hF
    cases hF
    exact ⟨hW, qExt.rf⟩
  · rw [if_neg c2] at hF
    obtain ⟨r3, er3, hF⟩ := qbind hF
    have kr3 : qok R r3 6 := hW.get ha0 er3 rfl
    obtain ⟨r4, er4, hF⟩ := qbind hF
    have kr4 : qok R r4 11 := hW.get ha0 er4 rfl
    obtain ⟨y5, ey5, hF⟩ := qbind hF
    have eX := eX6_setOut hW kr3 kr4 ey5
    have E : qExt R y5.2 := eX.2
    have hW : qWT y5.2 := eX.1
    have ha0 : qok y5.2 a0 7 := ha0.ext E
    refine qx_trans E ?_
    obtain ⟨r6, er6, hF⟩ := qbind hF
    have kr6 : qok y5.2 r6 6 := hW.get ha0 er6 rfl
    obtain ⟨y7, ey7, hF⟩ := qbind hF
    cases hF
    exact ⟨hW, qExt.rf⟩
set_option maxHeartbeats 4000000 in
set_option maxRecDepth 100000 in
theorem sX7_departures {l : Launch} {G : qG} {N : Nat} {R : qR} {I : qI} {a0 : Nat} {p1 : Int32} {p2 : Int32} {p3 : Int32} {rv : Int32} {rI : qI} {rR : qR} (hW : qWT R) (ha0 : qok R a0 7) (hF : fX7_departures N R I a0 p1 p2 p3 = some (rv, rI, rR)) : qMt l G mX7_departures 4 [.ref (G.1 + a0), .int p1, .int p2, .int p3] I R (some (.int rv)) rI rR := by
  have hX := eX7_departures hW ha0 hF
  unfold fX7_departures at hF
  refine qMt_of (by decide) (Nat.le_of_ble_eq_true rfl) ⟨hX.2.1, hX.2.2.1⟩ ?_
  show AW _ 0 [(0, .ref (G.1 + a0)), (1, .int p1), (2, .int p2), (3, .int p3)] [] I R
  refine aw_iload_n dX7_departures_0 1 rfl rfl ?_
  refine aw_iload_n dX7_departures_1 2 rfl rfl ?_
  refine aw_iload_n dX7_departures_2 3 rfl rfl ?_
  obtain ⟨y1, ey1, hF⟩ := qbind hF
  refine aw_callSi (sX7_canTravel hW  ey1) cl_X7_143 rfl (qroomH (by decide) (by decide) hX.2) rfl (Nat.le_of_ble_eq_true rfl) dX7_departures_3 rfl ?_
  refine aw_if_ne (tgt := 11) dX7_departures_6 (by decide) (fun c2 => ?_) (fun c2 => ?_)
  · rw [if_neg c2] at hF
    refine aw_aload_n dX7_departures_11 0 rfl rfl ?_
    obtain ⟨r3, er3, hF⟩ := qbind hF
    have kr3 : qok R r3 6 := hW.get ha0 er3 rfl
    refine aw_getr fl_X7_32 (by decide) fg_X7_3 ha0 er3 rfl dX7_departures_12 ?_
    refine aw_aload_n dX7_departures_15 0 rfl rfl ?_
    obtain ⟨r4, er4, hF⟩ := qbind hF
    have kr4 : qok R r4 11 := hW.get ha0 er4 rfl
    refine aw_getr fl_X7_11 (by decide) fg_X7_0 ha0 er4 rfl dX7_departures_16 ?_
    refine aw_aload_n dX7_departures_19 0 rfl rfl ?_
    refine aw_geti fl_X7_45 (by decide) fg_X7_4 ha0 rfl dX7_departures_20 ?_
    refine aw_iload_n dX7_departures_23 3 rfl rfl ?_
    refine aw_aload_n dX7_departures_24 0 rfl rfl ?_
    refine aw_geti fl_X7_36 (by decide) fg_X7_5 ha0 rfl dX7_departures_25 ?_
    obtain ⟨y5, ey5, hF⟩ := qbind hF
    have eX := eX6_setOut hW kr3 kr4 ey5
    have hM := fun {l : Launch} {G : qG} => sX6_setOut (l := l) (G := G) hW kr3 kr4 ey5
    have hrec0 := kr3
    have E : qExt R y5.2 := eX.2
    have hW : qWT y5.2 := eX.1
    have ha0 : qok y5.2 a0 7 := ha0.ext E
    have hX : qWT rR ∧ qExt y5.2 rR := by
      obtain ⟨r6, er6, hF⟩ := qbind hF
      have kr6 : qok y5.2 r6 6 := hW.get ha0 er6 rfl
      obtain ⟨y7, ey7, hF⟩ := qbind hF
      cases hF
      exact ⟨hW, qExt.rf⟩
    refine aw_callVv (As := [.ref (G.1 + r4), .int (I a0 4), .int p3, .int (I a0 5)]) hM cl_X7_146 rfl (qroomH (by decide) (by decide) hX.2) rfl hrec0 (Nat.le_of_ble_eq_true rfl) dX7_departures_28 rfl ?_
    refine aw_aload_n dX7_departures_31 0 rfl rfl ?_
    obtain ⟨r6, er6, hF⟩ := qbind hF
    have kr6 : qok y5.2 r6 6 := hW.get ha0 er6 rfl
    refine aw_getr fl_X7_32 (by decide) fg_X7_3 ha0 er6 rfl dX7_departures_32 ?_
    refine aw_iload_n dX7_departures_35 1 rfl rfl ?_
    refine aw_iload_n dX7_departures_36 2 rfl rfl ?_
    obtain ⟨y7, ey7, hF⟩ := qbind hF
    refine aw_callVi (As := [.int p1, .int p2]) (sX6_findDepartures hW kr6 ey7) cl_X7_154 rfl (qroomH (by decide) (by decide) hX.2) rfl kr6 (Nat.le_of_ble_eq_true rfl) dX7_departures_37 rfl ?_
    cases hF
    exact aw_iret rfl dX7_departures_40 rfl rfl rfl
  · rw [if_pos c2] at hF
    refine aw_iconst (v := (-1 : Int32)) dX7_departures_9 (by decide) ?_
    cases hF
    exact aw_iret rfl dX7_departures_10 rfl rfl rfl
def fX7_departure (N : Nat) (R : qR) (I : qI) (a0 : Nat) (p1 : Int32) (p2 : Int32) (p3 : Int32) (p4 : Int32) : Option (Int32 × qI × qR) :=
  (fX7_canTravel R I p1 p2 p3).bind fun y1 =>
  if y1 = 0 then
    (some ((-1 : Int32), I, R))
  else
    ((R.1 a0 3).bind fun r3 =>
    (R.1 a0 0).bind fun r4 =>
    (fX6_setOut R I r3 r4 (I a0 4) p3 (I a0 5)).bind fun y5 =>
    (y5.2.1 a0 3).bind fun r6 =>
    (fX6_findDepartures N y5.2 y5.1 r6 p1 p2).bind fun y7 =>
    if p4 < 0 then
      (some ((-1 : Int32), y7.2, y5.2))
    else
      (if y7.1 ≤ p4 then
        (some ((-1 : Int32), y7.2, y5.2))
      else
        ((fX6_departureAt y5.2 y7.2 r6 p4).bind fun y10 =>
        some (y10, y7.2, y5.2))))
set_option maxHeartbeats 4000000 in
set_option maxRecDepth 100000 in
theorem eX7_departure {N : Nat} {R : qR} {I : qI} {a0 : Nat} {p1 : Int32} {p2 : Int32} {p3 : Int32} {p4 : Int32} {rv : Int32} {rI : qI} {rR : qR} (hW : qWT R) (ha0 : qok R a0 7) (hF : fX7_departure N R I a0 p1 p2 p3 p4 = some (rv, rI, rR)) : qWT rR ∧ qExt R rR := by
  unfold fX7_departure at hF
  obtain ⟨y1, ey1, hF⟩ := qbind hF
  by_cases c2 : y1 = 0
  · rw [if_pos c2] at hF
    cases hF
    exact ⟨hW, qExt.rf⟩
  · rw [if_neg c2] at hF
    obtain ⟨r3, er3, hF⟩ := qbind hF
    have kr3 : qok R r3 6 := hW.get ha0 er3 rfl
    obtain ⟨r4, er4, hF⟩ := qbind hF
    have kr4 : qok R r4 11 := hW.get ha0 er4 rfl
    obtain ⟨y5, ey5, hF⟩ := qbind hF
    have eX := eX6_setOut hW kr3 kr4 ey5
    have E : qExt R y5.2 := eX.2
    have hW : qWT y5.2 := eX.1
    have ha0 : qok y5.2 a0 7 := ha0.ext E
    refine qx_trans E ?_
    obtain ⟨r6, er6, hF⟩ := qbind hF
    have kr6 : qok y5.2 r6 6 := hW.get ha0 er6 rfl
    obtain ⟨y7, ey7, hF⟩ := qbind hF
    by_cases c8 : p4 < 0
    · rw [if_pos c8] at hF
      cases hF
      exact ⟨hW, qExt.rf⟩
    · rw [if_neg c8] at hF
      by_cases c9 : y7.1 ≤ p4
      · rw [if_pos c9] at hF
        cases hF
        exact ⟨hW, qExt.rf⟩
      · rw [if_neg c9] at hF
        obtain ⟨y10, ey10, hF⟩ := qbind hF
        cases hF
        exact ⟨hW, qExt.rf⟩
set_option maxHeartbeats 4000000 in
set_option maxRecDepth 100000 in
theorem sX7_departure {l : Launch} {G : qG} {N : Nat} {R : qR} {I : qI} {a0 : Nat} {p1 : Int32} {p2 : Int32} {p3 : Int32} {p4 : Int32} {rv : Int32} {rI : qI} {rR : qR} (hW : qWT R) (ha0 : qok R a0 7) (hF : fX7_departure N R I a0 p1 p2 p3 p4 = some (rv, rI, rR)) : qMt l G mX7_departure 4 [.ref (G.1 + a0), .int p1, .int p2, .int p3, .int p4] I R (some (.int rv)) rI rR := by
  have hX := eX7_departure hW ha0 hF
  unfold fX7_departure at hF
  refine qMt_of (by decide) (Nat.le_of_ble_eq_true rfl) ⟨hX.2.1, hX.2.2.1⟩ ?_
  show AW _ 0 [(0, .ref (G.1 + a0)), (1, .int p1), (2, .int p2), (3, .int p3), (4, .int p4)] [] I R
  refine aw_iload_n dX7_departure_0 1 rfl rfl ?_
  refine aw_iload_n dX7_departure_1 2 rfl rfl ?_
  refine aw_iload_n dX7_departure_2 3 rfl rfl ?_
  obtain ⟨y1, ey1, hF⟩ := qbind hF
  refine aw_callSi (sX7_canTravel hW  ey1) cl_X7_143 rfl (qroomH (by decide) (by decide) hX.2) rfl (Nat.le_of_ble_eq_true rfl) dX7_departure_3 rfl ?_
  refine aw_if_ne (tgt := 11) dX7_departure_6 (by decide) (fun c2 => ?_) (fun c2 => ?_)
  · rw [if_neg c2] at hF
    refine aw_aload_n dX7_departure_11 0 rfl rfl ?_
    obtain ⟨r3, er3, hF⟩ := qbind hF
    have kr3 : qok R r3 6 := hW.get ha0 er3 rfl
    refine aw_getr fl_X7_32 (by decide) fg_X7_3 ha0 er3 rfl dX7_departure_12 ?_
    refine aw_aload_n dX7_departure_15 0 rfl rfl ?_
    obtain ⟨r4, er4, hF⟩ := qbind hF
    have kr4 : qok R r4 11 := hW.get ha0 er4 rfl
    refine aw_getr fl_X7_11 (by decide) fg_X7_0 ha0 er4 rfl dX7_departure_16 ?_
    refine aw_aload_n dX7_departure_19 0 rfl rfl ?_
    refine aw_geti fl_X7_45 (by decide) fg_X7_4 ha0 rfl dX7_departure_20 ?_
    refine aw_iload_n dX7_departure_23 3 rfl rfl ?_
    refine aw_aload_n dX7_departure_24 0 rfl rfl ?_
    refine aw_geti fl_X7_36 (by decide) fg_X7_5 ha0 rfl dX7_departure_25 ?_
    obtain ⟨y5, ey5, hF⟩ := qbind hF
    have eX := eX6_setOut hW kr3 kr4 ey5
    have hM := fun {l : Launch} {G : qG} => sX6_setOut (l := l) (G := G) hW kr3 kr4 ey5
    have hrec0 := kr3
    have E : qExt R y5.2 := eX.2
    have hW : qWT y5.2 := eX.1
    have ha0 : qok y5.2 a0 7 := ha0.ext E
    have hX : qWT rR ∧ qExt y5.2 rR := by
      obtain ⟨r6, er6, hF⟩ := qbind hF
      have kr6 : qok y5.2 r6 6 := hW.get ha0 er6 rfl
      obtain ⟨y7, ey7, hF⟩ := qbind hF
      by_cases c8 : p4 < 0
      · rw [if_pos c8] at hF
        cases hF
        exact ⟨hW, qExt.rf⟩
      · rw [if_neg c8] at hF
        by_cases c9 : y7.1 ≤ p4
        · rw [if_pos c9] at hF
          cases hF
          exact ⟨hW, qExt.rf⟩
        · rw [if_neg c9] at hF
          obtain ⟨y10, ey10, hF⟩ := qbind hF
          cases hF
          exact ⟨hW, qExt.rf⟩
    refine aw_callVv (As := [.ref (G.1 + r4), .int (I a0 4), .int p3, .int (I a0 5)]) hM cl_X7_146 rfl (qroomH (by decide) (by decide) hX.2) rfl hrec0 (Nat.le_of_ble_eq_true rfl) dX7_departure_28 rfl ?_
    refine aw_aload_n dX7_departure_31 0 rfl rfl ?_
    obtain ⟨r6, er6, hF⟩ := qbind hF
    have kr6 : qok y5.2 r6 6 := hW.get ha0 er6 rfl
    refine aw_getr fl_X7_32 (by decide) fg_X7_3 ha0 er6 rfl dX7_departure_32 ?_
    refine aw_iload_n dX7_departure_35 1 rfl rfl ?_
    refine aw_iload_n dX7_departure_36 2 rfl rfl ?_
    obtain ⟨y7, ey7, hF⟩ := qbind hF
    refine aw_callVi (As := [.int p1, .int p2]) (sX6_findDepartures hW kr6 ey7) cl_X7_154 rfl (qroomH (by decide) (by decide) hX.2) rfl kr6 (Nat.le_of_ble_eq_true rfl) dX7_departure_37 rfl ?_
    refine aw_istore (lv' := [(5, .int y7.1), (0, .ref (G.1 + a0)), (1, .int p1), (2, .int p2), (3, .int p3), (4, .int p4)]) dX7_departure_40 (Nat.le_of_ble_eq_true rfl) rfl ?_
    refine aw_iload dX7_departure_42 5 rfl ?_
    refine aw_if_lt (tgt := 66) dX7_departure_44 (by decide) (fun c8 => ?_) (fun c8 => ?_)
    · rw [if_pos c8] at hF
      refine aw_iconst (v := (-1 : Int32)) dX7_departure_66 (by decide) ?_
      cases hF
      exact aw_iret rfl dX7_departure_67 rfl rfl rfl
    · rw [if_neg c8] at hF
      refine aw_iload dX7_departure_47 5 rfl ?_
      refine aw_iload dX7_departure_49 0 rfl ?_
      refine aw_icmp_ge (tgt := 66) dX7_departure_51 (by decide) (fun c9 => ?_) (fun c9 => ?_)
      · rw [if_pos c9] at hF
        refine aw_iconst (v := (-1 : Int32)) dX7_departure_66 (by decide) ?_
        cases hF
        exact aw_iret rfl dX7_departure_67 rfl rfl rfl
      · rw [if_neg c9] at hF
        refine aw_aload_n dX7_departure_54 1 rfl rfl ?_
        refine aw_getr fl_X7_32 (by decide) fg_X7_3 ha0 er6 rfl dX7_departure_55 ?_
        refine aw_iload dX7_departure_58 5 rfl ?_
        obtain ⟨y10, ey10, hF⟩ := qbind hF
        refine aw_callVi (As := [.int p4]) (sX6_departureAt hW kr6 ey10) cl_X7_158 rfl (qroomH (by decide) (by decide) hX.2) rfl kr6 (Nat.le_of_ble_eq_true rfl) dX7_departure_60 rfl ?_
        refine aw_goto (tgt := 67) dX7_departure_63 (by decide) ?_
        cases hF
        exact aw_iret rfl dX7_departure_67 rfl rfl rfl
  · rw [if_pos c2] at hF
    refine aw_iconst (v := (-1 : Int32)) dX7_departure_9 (by decide) ?_
    cases hF
    exact aw_iret rfl dX7_departure_10 rfl rfl rfl
def fX8_init (R : qR) (I : qI) (a0 : Nat) : Option (qI × qR) :=
  qlet (qup I a0 2 (5 : Int32)) fun I1 =>
  qlet (qzI I1 R.2.2.1) fun I2 =>
  qlet (qzR R 9 10) fun R3 =>
  qlet (qpr R3 a0 3 (some R.2.2.1)) fun R5 =>
  qlet (qzI I2 R5.2.2.1) fun I6 =>
  qlet (qzR R5 9 10) fun R7 =>
  qlet (qpr R7 a0 4 (some R5.2.2.1)) fun R9 =>
  qlet (qzI I6 R9.2.2.1) fun I10 =>
  qlet (qzR R9 9 70) fun R11 =>
  qlet (qpr R11 a0 5 (some R9.2.2.1)) fun R13 =>
  qlet (qzI I10 R13.2.2.1) fun I14 =>
  qlet (qzR R13 9 70) fun R15 =>
  qlet (qpr R15 a0 6 (some R13.2.2.1)) fun R17 =>
  qlet (qzI I14 R17.2.2.1) fun I18 =>
  qlet (qzR R17 9 70) fun R19 =>
  qlet (qpr R19 a0 7 (some R17.2.2.1)) fun R21 =>
  qlet (qzI I18 R21.2.2.1) fun I22 =>
  qlet (qzR R21 9 13) fun R23 =>
  (qwr I22 R23 R21.2.2.1 (0 : Int32) (1 : Int32)).bind fun I25 =>
  (qwr I25 R23 R21.2.2.1 (1 : Int32) (2 : Int32)).bind fun I26 =>
  (qwr I26 R23 R21.2.2.1 (2 : Int32) (4 : Int32)).bind fun I27 =>
  (qwr I27 R23 R21.2.2.1 (3 : Int32) (8 : Int32)).bind fun I28 =>
  (qwr I28 R23 R21.2.2.1 (4 : Int32) (16 : Int32)).bind fun I29 =>
  (qwr I29 R23 R21.2.2.1 (5 : Int32) (32 : Int32)).bind fun I30 =>
  (qwr I30 R23 R21.2.2.1 (6 : Int32) (64 : Int32)).bind fun I31 =>
  (qwr I31 R23 R21.2.2.1 (7 : Int32) (0 : Int32)).bind fun I32 =>
  (qwr I32 R23 R21.2.2.1 (8 : Int32) (0 : Int32)).bind fun I33 =>
  (qwr I33 R23 R21.2.2.1 (9 : Int32) (0 : Int32)).bind fun I34 =>
  (qwr I34 R23 R21.2.2.1 (10 : Int32) (0 : Int32)).bind fun I35 =>
  (qwr I35 R23 R21.2.2.1 (11 : Int32) (0 : Int32)).bind fun I36 =>
  (qwr I36 R23 R21.2.2.1 (12 : Int32) (0 : Int32)).bind fun I37 =>
  qlet (qpr R23 a0 8 (some R21.2.2.1)) fun R38 =>
  qlet (qzI I37 R38.2.2.1) fun I39 =>
  qlet (qzR R38 9 42) fun R40 =>
  qlet (qpr R40 a0 11 (some R38.2.2.1)) fun R42 =>
  qlet (qzI I39 R42.2.2.1) fun I43 =>
  qlet (qzR R42 9 6) fun R44 =>
  qlet (qpr R44 a0 12 (some R42.2.2.1)) fun R46 =>
  qlet (qzI I43 R46.2.2.1) fun I47 =>
  qlet (qzR R46 9 6) fun R48 =>
  qlet (qpr R48 a0 13 (some R46.2.2.1)) fun R50 =>
  qlet (qzI I47 R50.2.2.1) fun I51 =>
  qlet (qzR R50 9 42) fun R52 =>
  qlet (qpr R52 a0 14 (some R50.2.2.1)) fun R54 =>
  qlet (qzI I51 R54.2.2.1) fun I55 =>
  qlet (qzR R54 9 42) fun R56 =>
  qlet (qpr R56 a0 15 (some R54.2.2.1)) fun R58 =>
  qlet (qzI I55 R58.2.2.1) fun I59 =>
  qlet (qzR R58 9 42) fun R60 =>
  qlet (qpr R60 a0 16 (some R58.2.2.1)) fun R62 =>
  qlet (qzI I59 R62.2.2.1) fun I63 =>
  qlet (qzR R62 9 42) fun R64 =>
  qlet (qpr R64 a0 17 (some R62.2.2.1)) fun R66 =>
  qlet (qzI I63 R66.2.2.1) fun I67 =>
  qlet (qzR R66 9 6) fun R68 =>
  qlet (qpr R68 a0 18 (some R66.2.2.1)) fun R70 =>
  qlet (qzI I67 R70.2.2.1) fun I71 =>
  qlet (qzR R70 9 6) fun R72 =>
  qlet (qpr R72 a0 19 (some R70.2.2.1)) fun R74 =>
  qlet (qzI I71 R74.2.2.1) fun I75 =>
  qlet (qzR R74 9 262144) fun R76 =>
  qlet (qpr R76 a0 21 (some R74.2.2.1)) fun R78 =>
  qlet (qzI I75 R78.2.2.1) fun I79 =>
  qlet (qzR R78 9 6) fun R80 =>
  qlet (qpr R80 a0 22 (some R78.2.2.1)) fun R82 =>
  qlet (qzI I79 R82.2.2.1) fun I83 =>
  qlet (qzR R82 10 70) fun R84 =>
  qlet (qpr R84 a0 23 (some R82.2.2.1)) fun R86 =>
  qlet (qzI I83 R86.2.2.1) fun I87 =>
  qlet (qzR R86 10 770) fun R88 =>
  qlet (qpr R88 a0 24 (some R86.2.2.1)) fun R90 =>
  qlet (qzI I87 R90.2.2.1) fun I91 =>
  qlet (qzR R90 9 10) fun R92 =>
  qlet (qpr R92 a0 27 (some R90.2.2.1)) fun R94 =>
  qlet (qzI I91 R94.2.2.1) fun I95 =>
  qlet (qzR R94 9 10) fun R96 =>
  qlet (qpr R96 a0 28 (some R94.2.2.1)) fun R98 =>
  qlet (qzI I95 R98.2.2.1) fun I99 =>
  qlet (qzR R98 9 10) fun R100 =>
  qlet (qpr R100 a0 29 (some R98.2.2.1)) fun R102 =>
  qlet (qzI I99 R102.2.2.1) fun I103 =>
  qlet (qzR R102 10 70) fun R104 =>
  qlet (qpr R104 a0 30 (some R102.2.2.1)) fun R106 =>
  qlet (qzI I103 R106.2.2.1) fun I107 =>
  qlet (qzR R106 10 70) fun R108 =>
  qlet (qpr R108 a0 31 (some R106.2.2.1)) fun R110 =>
  qlet (qzI I107 R110.2.2.1) fun I111 =>
  qlet (qzR R110 10 70) fun R112 =>
  qlet (qpr R112 a0 32 (some R110.2.2.1)) fun R114 =>
  qlet (qzI I111 R114.2.2.1) fun I115 =>
  qlet (qzR R114 9 10) fun R116 =>
  qlet (qpr R116 a0 34 (some R114.2.2.1)) fun R118 =>
  some (I115, R118)
set_option maxHeartbeats 4000000 in
set_option maxRecDepth 100000 in
theorem eX8_init {R : qR} {I : qI} {a0 : Nat} {rI : qI} {rR : qR} (hW : qWT R) (ha0 : qok R a0 8) (hF : fX8_init R I a0 = some (rI, rR)) : qWT rR ∧ qExt R rR := by
  unfold fX8_init at hF
  obtain ⟨I1, eI1, hF⟩ := qletE hF
  obtain ⟨I2, eI2, hF⟩ := qletE hF
  obtain ⟨R3, eR3, hF⟩ := qletE hF
  have hz4 : qok R3 R.2.2.1 9 := qok.z eR3
  have E_1 : qExt R R3 := qExt.z eR3
  have hW_1 : qWT R3 := hW.z eR3
  have ha0_1 : qok R3 a0 8 := ha0.ext E_1
  obtain ⟨R5, eR5, hF⟩ := qletE hF
  have E_2 : qExt R3 R5 := qExt.pr eR5
  have hW_2 : qWT R5 := hW_1.pr ha0_1 hz4 eR5
  have ha0_2 : qok R5 a0 8 := ha0_1.ext E_2
  obtain ⟨I6, eI6, hF⟩ := qletE hF
  obtain ⟨R7, eR7, hF⟩ := qletE hF
  have hz8 : qok R7 R5.2.2.1 9 := qok.z eR7
  have E_3 : qExt R5 R7 := qExt.z eR7
  have hW_3 : qWT R7 := hW_2.z eR7
  have ha0_3 : qok R7 a0 8 := ha0_2.ext E_3
  obtain ⟨R9, eR9, hF⟩ := qletE hF
  have E_4 : qExt R7 R9 := qExt.pr eR9
  have hW_4 : qWT R9 := hW_3.pr ha0_3 hz8 eR9
  have ha0_4 : qok R9 a0 8 := ha0_3.ext E_4
  obtain ⟨I10, eI10, hF⟩ := qletE hF
  obtain ⟨R11, eR11, hF⟩ := qletE hF
  have hz12 : qok R11 R9.2.2.1 9 := qok.z eR11
  have E_5 : qExt R9 R11 := qExt.z eR11
  have hW_5 : qWT R11 := hW_4.z eR11
  have ha0_5 : qok R11 a0 8 := ha0_4.ext E_5
  obtain ⟨R13, eR13, hF⟩ := qletE hF
  have E_6 : qExt R11 R13 := qExt.pr eR13
  have hW_6 : qWT R13 := hW_5.pr ha0_5 hz12 eR13
  have ha0_6 : qok R13 a0 8 := ha0_5.ext E_6
  obtain ⟨I14, eI14, hF⟩ := qletE hF
  obtain ⟨R15, eR15, hF⟩ := qletE hF
  have hz16 : qok R15 R13.2.2.1 9 := qok.z eR15
  have E_7 : qExt R13 R15 := qExt.z eR15
  have hW_7 : qWT R15 := hW_6.z eR15
  have ha0_7 : qok R15 a0 8 := ha0_6.ext E_7
  obtain ⟨R17, eR17, hF⟩ := qletE hF
  have E_8 : qExt R15 R17 := qExt.pr eR17
  have hW_8 : qWT R17 := hW_7.pr ha0_7 hz16 eR17
  have ha0_8 : qok R17 a0 8 := ha0_7.ext E_8
  obtain ⟨I18, eI18, hF⟩ := qletE hF
  obtain ⟨R19, eR19, hF⟩ := qletE hF
  have hz20 : qok R19 R17.2.2.1 9 := qok.z eR19
  have E_9 : qExt R17 R19 := qExt.z eR19
  have hW_9 : qWT R19 := hW_8.z eR19
  have ha0_9 : qok R19 a0 8 := ha0_8.ext E_9
  obtain ⟨R21, eR21, hF⟩ := qletE hF
  have E_10 : qExt R19 R21 := qExt.pr eR21
  have hW_10 : qWT R21 := hW_9.pr ha0_9 hz20 eR21
  have ha0_10 : qok R21 a0 8 := ha0_9.ext E_10
  obtain ⟨I22, eI22, hF⟩ := qletE hF
  obtain ⟨R23, eR23, hF⟩ := qletE hF
  have hz24 : qok R23 R21.2.2.1 9 := qok.z eR23
  have E_11 : qExt R21 R23 := qExt.z eR23
  have hW_11 : qWT R23 := hW_10.z eR23
  have ha0_11 : qok R23 a0 8 := ha0_10.ext E_11
  obtain ⟨I25, eI25, hF⟩ := qbind hF
  obtain ⟨I26, eI26, hF⟩ := qbind hF
  obtain ⟨I27, eI27, hF⟩ := qbind hF
  obtain ⟨I28, eI28, hF⟩ := qbind hF
  obtain ⟨I29, eI29, hF⟩ := qbind hF
  obtain ⟨I30, eI30, hF⟩ := qbind hF
  obtain ⟨I31, eI31, hF⟩ := qbind hF
  obtain ⟨I32, eI32, hF⟩ := qbind hF
  obtain ⟨I33, eI33, hF⟩ := qbind hF
  obtain ⟨I34, eI34, hF⟩ := qbind hF
  obtain ⟨I35, eI35, hF⟩ := qbind hF
  obtain ⟨I36, eI36, hF⟩ := qbind hF
  obtain ⟨I37, eI37, hF⟩ := qbind hF
  obtain ⟨R38, eR38, hF⟩ := qletE hF
  have E_12 : qExt R23 R38 := qExt.pr eR38
  have hW_12 : qWT R38 := hW_11.pr ha0_11 hz24 eR38
  have ha0_12 : qok R38 a0 8 := ha0_11.ext E_12
  obtain ⟨I39, eI39, hF⟩ := qletE hF
  obtain ⟨R40, eR40, hF⟩ := qletE hF
  have hz41 : qok R40 R38.2.2.1 9 := qok.z eR40
  have E_13 : qExt R38 R40 := qExt.z eR40
  have hW_13 : qWT R40 := hW_12.z eR40
  have ha0_13 : qok R40 a0 8 := ha0_12.ext E_13
  obtain ⟨R42, eR42, hF⟩ := qletE hF
  have E_14 : qExt R40 R42 := qExt.pr eR42
  have hW_14 : qWT R42 := hW_13.pr ha0_13 hz41 eR42
  have ha0_14 : qok R42 a0 8 := ha0_13.ext E_14
  obtain ⟨I43, eI43, hF⟩ := qletE hF
  obtain ⟨R44, eR44, hF⟩ := qletE hF
  have hz45 : qok R44 R42.2.2.1 9 := qok.z eR44
  have E_15 : qExt R42 R44 := qExt.z eR44
  have hW_15 : qWT R44 := hW_14.z eR44
  have ha0_15 : qok R44 a0 8 := ha0_14.ext E_15
  obtain ⟨R46, eR46, hF⟩ := qletE hF
  have E_16 : qExt R44 R46 := qExt.pr eR46
  have hW_16 : qWT R46 := hW_15.pr ha0_15 hz45 eR46
  have ha0_16 : qok R46 a0 8 := ha0_15.ext E_16
  obtain ⟨I47, eI47, hF⟩ := qletE hF
  obtain ⟨R48, eR48, hF⟩ := qletE hF
  have hz49 : qok R48 R46.2.2.1 9 := qok.z eR48
  have E_17 : qExt R46 R48 := qExt.z eR48
  have hW_17 : qWT R48 := hW_16.z eR48
  have ha0_17 : qok R48 a0 8 := ha0_16.ext E_17
  obtain ⟨R50, eR50, hF⟩ := qletE hF
  have E_18 : qExt R48 R50 := qExt.pr eR50
  have hW_18 : qWT R50 := hW_17.pr ha0_17 hz49 eR50
  have ha0_18 : qok R50 a0 8 := ha0_17.ext E_18
  obtain ⟨I51, eI51, hF⟩ := qletE hF
  obtain ⟨R52, eR52, hF⟩ := qletE hF
  have hz53 : qok R52 R50.2.2.1 9 := qok.z eR52
  have E_19 : qExt R50 R52 := qExt.z eR52
  have hW_19 : qWT R52 := hW_18.z eR52
  have ha0_19 : qok R52 a0 8 := ha0_18.ext E_19
  obtain ⟨R54, eR54, hF⟩ := qletE hF
  have E_20 : qExt R52 R54 := qExt.pr eR54
  have hW_20 : qWT R54 := hW_19.pr ha0_19 hz53 eR54
  have ha0_20 : qok R54 a0 8 := ha0_19.ext E_20
  obtain ⟨I55, eI55, hF⟩ := qletE hF
  obtain ⟨R56, eR56, hF⟩ := qletE hF
  have hz57 : qok R56 R54.2.2.1 9 := qok.z eR56
  have E_21 : qExt R54 R56 := qExt.z eR56
  have hW_21 : qWT R56 := hW_20.z eR56
  have ha0_21 : qok R56 a0 8 := ha0_20.ext E_21
  obtain ⟨R58, eR58, hF⟩ := qletE hF
  have E_22 : qExt R56 R58 := qExt.pr eR58
  have hW_22 : qWT R58 := hW_21.pr ha0_21 hz57 eR58
  have ha0_22 : qok R58 a0 8 := ha0_21.ext E_22
  obtain ⟨I59, eI59, hF⟩ := qletE hF
  obtain ⟨R60, eR60, hF⟩ := qletE hF
  have hz61 : qok R60 R58.2.2.1 9 := qok.z eR60
  have E_23 : qExt R58 R60 := qExt.z eR60
  have hW_23 : qWT R60 := hW_22.z eR60
  have ha0_23 : qok R60 a0 8 := ha0_22.ext E_23
  obtain ⟨R62, eR62, hF⟩ := qletE hF
  have E_24 : qExt R60 R62 := qExt.pr eR62
  have hW_24 : qWT R62 := hW_23.pr ha0_23 hz61 eR62
  have ha0_24 : qok R62 a0 8 := ha0_23.ext E_24
  obtain ⟨I63, eI63, hF⟩ := qletE hF
  obtain ⟨R64, eR64, hF⟩ := qletE hF
  have hz65 : qok R64 R62.2.2.1 9 := qok.z eR64
  have E_25 : qExt R62 R64 := qExt.z eR64
  have hW_25 : qWT R64 := hW_24.z eR64
  have ha0_25 : qok R64 a0 8 := ha0_24.ext E_25
  obtain ⟨R66, eR66, hF⟩ := qletE hF
  have E_26 : qExt R64 R66 := qExt.pr eR66
  have hW_26 : qWT R66 := hW_25.pr ha0_25 hz65 eR66
  have ha0_26 : qok R66 a0 8 := ha0_25.ext E_26
  obtain ⟨I67, eI67, hF⟩ := qletE hF
  obtain ⟨R68, eR68, hF⟩ := qletE hF
  have hz69 : qok R68 R66.2.2.1 9 := qok.z eR68
  have E_27 : qExt R66 R68 := qExt.z eR68
  have hW_27 : qWT R68 := hW_26.z eR68
  have ha0_27 : qok R68 a0 8 := ha0_26.ext E_27
  obtain ⟨R70, eR70, hF⟩ := qletE hF
  have E_28 : qExt R68 R70 := qExt.pr eR70
  have hW_28 : qWT R70 := hW_27.pr ha0_27 hz69 eR70
  have ha0_28 : qok R70 a0 8 := ha0_27.ext E_28
  obtain ⟨I71, eI71, hF⟩ := qletE hF
  obtain ⟨R72, eR72, hF⟩ := qletE hF
  have hz73 : qok R72 R70.2.2.1 9 := qok.z eR72
  have E_29 : qExt R70 R72 := qExt.z eR72
  have hW_29 : qWT R72 := hW_28.z eR72
  have ha0_29 : qok R72 a0 8 := ha0_28.ext E_29
  obtain ⟨R74, eR74, hF⟩ := qletE hF
  have E_30 : qExt R72 R74 := qExt.pr eR74
  have hW_30 : qWT R74 := hW_29.pr ha0_29 hz73 eR74
  have ha0_30 : qok R74 a0 8 := ha0_29.ext E_30
  obtain ⟨I75, eI75, hF⟩ := qletE hF
  obtain ⟨R76, eR76, hF⟩ := qletE hF
  have hz77 : qok R76 R74.2.2.1 9 := qok.z eR76
  have E_31 : qExt R74 R76 := qExt.z eR76
  have hW_31 : qWT R76 := hW_30.z eR76
  have ha0_31 : qok R76 a0 8 := ha0_30.ext E_31
  obtain ⟨R78, eR78, hF⟩ := qletE hF
  have E_32 : qExt R76 R78 := qExt.pr eR78
  have hW_32 : qWT R78 := hW_31.pr ha0_31 hz77 eR78
  have ha0_32 : qok R78 a0 8 := ha0_31.ext E_32
  obtain ⟨I79, eI79, hF⟩ := qletE hF
  obtain ⟨R80, eR80, hF⟩ := qletE hF
  have hz81 : qok R80 R78.2.2.1 9 := qok.z eR80
  have E_33 : qExt R78 R80 := qExt.z eR80
  have hW_33 : qWT R80 := hW_32.z eR80
  have ha0_33 : qok R80 a0 8 := ha0_32.ext E_33
  obtain ⟨R82, eR82, hF⟩ := qletE hF
  have E_34 : qExt R80 R82 := qExt.pr eR82
  have hW_34 : qWT R82 := hW_33.pr ha0_33 hz81 eR82
  have ha0_34 : qok R82 a0 8 := ha0_33.ext E_34
  obtain ⟨I83, eI83, hF⟩ := qletE hF
  obtain ⟨R84, eR84, hF⟩ := qletE hF
  have hz85 : qok R84 R82.2.2.1 10 := qok.z eR84
  have E_35 : qExt R82 R84 := qExt.z eR84
  have hW_35 : qWT R84 := hW_34.z eR84
  have ha0_35 : qok R84 a0 8 := ha0_34.ext E_35
  obtain ⟨R86, eR86, hF⟩ := qletE hF
  have E_36 : qExt R84 R86 := qExt.pr eR86
  have hW_36 : qWT R86 := hW_35.pr ha0_35 hz85 eR86
  have ha0_36 : qok R86 a0 8 := ha0_35.ext E_36
  obtain ⟨I87, eI87, hF⟩ := qletE hF
  obtain ⟨R88, eR88, hF⟩ := qletE hF
  have hz89 : qok R88 R86.2.2.1 10 := qok.z eR88
  have E_37 : qExt R86 R88 := qExt.z eR88
  have hW_37 : qWT R88 := hW_36.z eR88
  have ha0_37 : qok R88 a0 8 := ha0_36.ext E_37
  obtain ⟨R90, eR90, hF⟩ := qletE hF
  have E_38 : qExt R88 R90 := qExt.pr eR90
  have hW_38 : qWT R90 := hW_37.pr ha0_37 hz89 eR90
  have ha0_38 : qok R90 a0 8 := ha0_37.ext E_38
  obtain ⟨I91, eI91, hF⟩ := qletE hF
  obtain ⟨R92, eR92, hF⟩ := qletE hF
  have hz93 : qok R92 R90.2.2.1 9 := qok.z eR92
  have E_39 : qExt R90 R92 := qExt.z eR92
  have hW_39 : qWT R92 := hW_38.z eR92
  have ha0_39 : qok R92 a0 8 := ha0_38.ext E_39
  obtain ⟨R94, eR94, hF⟩ := qletE hF
  have E_40 : qExt R92 R94 := qExt.pr eR94
  have hW_40 : qWT R94 := hW_39.pr ha0_39 hz93 eR94
  have ha0_40 : qok R94 a0 8 := ha0_39.ext E_40
  obtain ⟨I95, eI95, hF⟩ := qletE hF
  obtain ⟨R96, eR96, hF⟩ := qletE hF
  have hz97 : qok R96 R94.2.2.1 9 := qok.z eR96
  have E_41 : qExt R94 R96 := qExt.z eR96
  have hW_41 : qWT R96 := hW_40.z eR96
  have ha0_41 : qok R96 a0 8 := ha0_40.ext E_41
  obtain ⟨R98, eR98, hF⟩ := qletE hF
  have E_42 : qExt R96 R98 := qExt.pr eR98
  have hW_42 : qWT R98 := hW_41.pr ha0_41 hz97 eR98
  have ha0_42 : qok R98 a0 8 := ha0_41.ext E_42
  obtain ⟨I99, eI99, hF⟩ := qletE hF
  obtain ⟨R100, eR100, hF⟩ := qletE hF
  have hz101 : qok R100 R98.2.2.1 9 := qok.z eR100
  have E_43 : qExt R98 R100 := qExt.z eR100
  have hW_43 : qWT R100 := hW_42.z eR100
  have ha0_43 : qok R100 a0 8 := ha0_42.ext E_43
  obtain ⟨R102, eR102, hF⟩ := qletE hF
  have E_44 : qExt R100 R102 := qExt.pr eR102
  have hW_44 : qWT R102 := hW_43.pr ha0_43 hz101 eR102
  have ha0_44 : qok R102 a0 8 := ha0_43.ext E_44
  obtain ⟨I103, eI103, hF⟩ := qletE hF
  obtain ⟨R104, eR104, hF⟩ := qletE hF
  have hz105 : qok R104 R102.2.2.1 10 := qok.z eR104
  have E_45 : qExt R102 R104 := qExt.z eR104
  have hW_45 : qWT R104 := hW_44.z eR104
  have ha0_45 : qok R104 a0 8 := ha0_44.ext E_45
  obtain ⟨R106, eR106, hF⟩ := qletE hF
  have E_46 : qExt R104 R106 := qExt.pr eR106
  have hW_46 : qWT R106 := hW_45.pr ha0_45 hz105 eR106
  have ha0_46 : qok R106 a0 8 := ha0_45.ext E_46
  obtain ⟨I107, eI107, hF⟩ := qletE hF
  obtain ⟨R108, eR108, hF⟩ := qletE hF
  have hz109 : qok R108 R106.2.2.1 10 := qok.z eR108
  have E_47 : qExt R106 R108 := qExt.z eR108
  have hW_47 : qWT R108 := hW_46.z eR108
  have ha0_47 : qok R108 a0 8 := ha0_46.ext E_47
  obtain ⟨R110, eR110, hF⟩ := qletE hF
  have E_48 : qExt R108 R110 := qExt.pr eR110
  have hW_48 : qWT R110 := hW_47.pr ha0_47 hz109 eR110
  have ha0_48 : qok R110 a0 8 := ha0_47.ext E_48
  obtain ⟨I111, eI111, hF⟩ := qletE hF
  obtain ⟨R112, eR112, hF⟩ := qletE hF
  have hz113 : qok R112 R110.2.2.1 10 := qok.z eR112
  have E_49 : qExt R110 R112 := qExt.z eR112
  have hW_49 : qWT R112 := hW_48.z eR112
  have ha0_49 : qok R112 a0 8 := ha0_48.ext E_49
  obtain ⟨R114, eR114, hF⟩ := qletE hF
  have E_50 : qExt R112 R114 := qExt.pr eR114
  have hW_50 : qWT R114 := hW_49.pr ha0_49 hz113 eR114
  have ha0_50 : qok R114 a0 8 := ha0_49.ext E_50
  obtain ⟨I115, eI115, hF⟩ := qletE hF
  obtain ⟨R116, eR116, hF⟩ := qletE hF
  have hz117 : qok R116 R114.2.2.1 9 := qok.z eR116
  have E_51 : qExt R114 R116 := qExt.z eR116
  have hW_51 : qWT R116 := hW_50.z eR116
  have ha0_51 : qok R116 a0 8 := ha0_50.ext E_51
  obtain ⟨R118, eR118, hF⟩ := qletE hF
  have E_52 : qExt R116 R118 := qExt.pr eR118
  have hW_52 : qWT R118 := hW_51.pr ha0_51 hz117 eR118
  have ha0_52 : qok R118 a0 8 := ha0_51.ext E_52
  obtain ⟨rfl, rfl⟩ := qpair hF
  have hX_52 := qX_end hW_52
  have hX_51 := qx_trans E_52 hX_52
  have hX_50 := qx_trans E_51 hX_51
  have hX_49 := qx_trans E_50 hX_50
  have hX_48 := qx_trans E_49 hX_49
  have hX_47 := qx_trans E_48 hX_48
  have hX_46 := qx_trans E_47 hX_47
  have hX_45 := qx_trans E_46 hX_46
  have hX_44 := qx_trans E_45 hX_45
  have hX_43 := qx_trans E_44 hX_44
  have hX_42 := qx_trans E_43 hX_43
  have hX_41 := qx_trans E_42 hX_42
  have hX_40 := qx_trans E_41 hX_41
  have hX_39 := qx_trans E_40 hX_40
  have hX_38 := qx_trans E_39 hX_39
  have hX_37 := qx_trans E_38 hX_38
  have hX_36 := qx_trans E_37 hX_37
  have hX_35 := qx_trans E_36 hX_36
  have hX_34 := qx_trans E_35 hX_35
  have hX_33 := qx_trans E_34 hX_34
  have hX_32 := qx_trans E_33 hX_33
  have hX_31 := qx_trans E_32 hX_32
  have hX_30 := qx_trans E_31 hX_31
  have hX_29 := qx_trans E_30 hX_30
  have hX_28 := qx_trans E_29 hX_29
  have hX_27 := qx_trans E_28 hX_28
  have hX_26 := qx_trans E_27 hX_27
  have hX_25 := qx_trans E_26 hX_26
  have hX_24 := qx_trans E_25 hX_25
  have hX_23 := qx_trans E_24 hX_24
  have hX_22 := qx_trans E_23 hX_23
  have hX_21 := qx_trans E_22 hX_22
  have hX_20 := qx_trans E_21 hX_21
  have hX_19 := qx_trans E_20 hX_20
  have hX_18 := qx_trans E_19 hX_19
  have hX_17 := qx_trans E_18 hX_18
  have hX_16 := qx_trans E_17 hX_17
  have hX_15 := qx_trans E_16 hX_16
  have hX_14 := qx_trans E_15 hX_15
  have hX_13 := qx_trans E_14 hX_14
  have hX_12 := qx_trans E_13 hX_13
  have hX_11 := qx_trans E_12 hX_12
  have hX_10 := qx_trans E_11 hX_11
  have hX_9 := qx_trans E_10 hX_10
  have hX_8 := qx_trans E_9 hX_9
  have hX_7 := qx_trans E_8 hX_8
  have hX_6 := qx_trans E_7 hX_7
  have hX_5 := qx_trans E_6 hX_6
  have hX_4 := qx_trans E_5 hX_5
  have hX_3 := qx_trans E_4 hX_4
  have hX_2 := qx_trans E_3 hX_3
  have hX_1 := qx_trans E_2 hX_2
  have hX := qx_trans E_1 hX_1
  exact hX
set_option maxHeartbeats 4000000 in
set_option maxRecDepth 100000 in
theorem sX8_init {l : Launch} {G : qG} {R : qR} {I : qI} {a0 : Nat} {rI : qI} {rR : qR} (hW : qWT R) (ha0 : qok R a0 8) (hF : fX8_init R I a0 = some (rI, rR)) : qMt l G mX8_init 1 [.ref (G.1 + a0)] I R (none) rI rR := by
  unfold fX8_init at hF
  obtain ⟨I1, eI1, hF⟩ := qletE hF
  obtain ⟨I2, eI2, hF⟩ := qletE hF
  obtain ⟨R3, eR3, hF⟩ := qletE hF
  have hz4 : qok R3 R.2.2.1 9 := qok.z eR3
  have E_1 : qExt R R3 := qExt.z eR3
  have hW_1 : qWT R3 := hW.z eR3
  have ha0_1 : qok R3 a0 8 := ha0.ext E_1
  obtain ⟨R5, eR5, hF⟩ := qletE hF
  have E_2 : qExt R3 R5 := qExt.pr eR5
  have hW_2 : qWT R5 := hW_1.pr ha0_1 hz4 eR5
  have ha0_2 : qok R5 a0 8 := ha0_1.ext E_2
  obtain ⟨I6, eI6, hF⟩ := qletE hF
  obtain ⟨R7, eR7, hF⟩ := qletE hF
  have hz8 : qok R7 R5.2.2.1 9 := qok.z eR7
  have E_3 : qExt R5 R7 := qExt.z eR7
  have hW_3 : qWT R7 := hW_2.z eR7
  have ha0_3 : qok R7 a0 8 := ha0_2.ext E_3
  obtain ⟨R9, eR9, hF⟩ := qletE hF
  have E_4 : qExt R7 R9 := qExt.pr eR9
  have hW_4 : qWT R9 := hW_3.pr ha0_3 hz8 eR9
  have ha0_4 : qok R9 a0 8 := ha0_3.ext E_4
  obtain ⟨I10, eI10, hF⟩ := qletE hF
  obtain ⟨R11, eR11, hF⟩ := qletE hF
  have hz12 : qok R11 R9.2.2.1 9 := qok.z eR11
  have E_5 : qExt R9 R11 := qExt.z eR11
  have hW_5 : qWT R11 := hW_4.z eR11
  have ha0_5 : qok R11 a0 8 := ha0_4.ext E_5
  obtain ⟨R13, eR13, hF⟩ := qletE hF
  have E_6 : qExt R11 R13 := qExt.pr eR13
  have hW_6 : qWT R13 := hW_5.pr ha0_5 hz12 eR13
  have ha0_6 : qok R13 a0 8 := ha0_5.ext E_6
  obtain ⟨I14, eI14, hF⟩ := qletE hF
  obtain ⟨R15, eR15, hF⟩ := qletE hF
  have hz16 : qok R15 R13.2.2.1 9 := qok.z eR15
  have E_7 : qExt R13 R15 := qExt.z eR15
  have hW_7 : qWT R15 := hW_6.z eR15
  have ha0_7 : qok R15 a0 8 := ha0_6.ext E_7
  obtain ⟨R17, eR17, hF⟩ := qletE hF
  have E_8 : qExt R15 R17 := qExt.pr eR17
  have hW_8 : qWT R17 := hW_7.pr ha0_7 hz16 eR17
  have ha0_8 : qok R17 a0 8 := ha0_7.ext E_8
  obtain ⟨I18, eI18, hF⟩ := qletE hF
  obtain ⟨R19, eR19, hF⟩ := qletE hF
  have hz20 : qok R19 R17.2.2.1 9 := qok.z eR19
  have E_9 : qExt R17 R19 := qExt.z eR19
  have hW_9 : qWT R19 := hW_8.z eR19
  have ha0_9 : qok R19 a0 8 := ha0_8.ext E_9
  obtain ⟨R21, eR21, hF⟩ := qletE hF
  have E_10 : qExt R19 R21 := qExt.pr eR21
  have hW_10 : qWT R21 := hW_9.pr ha0_9 hz20 eR21
  have ha0_10 : qok R21 a0 8 := ha0_9.ext E_10
  obtain ⟨I22, eI22, hF⟩ := qletE hF
  obtain ⟨R23, eR23, hF⟩ := qletE hF
  have hz24 : qok R23 R21.2.2.1 9 := qok.z eR23
  have E_11 : qExt R21 R23 := qExt.z eR23
  have hW_11 : qWT R23 := hW_10.z eR23
  have ha0_11 : qok R23 a0 8 := ha0_10.ext E_11
  obtain ⟨I25, eI25, hF⟩ := qbind hF
  obtain ⟨I26, eI26, hF⟩ := qbind hF
  obtain ⟨I27, eI27, hF⟩ := qbind hF
  obtain ⟨I28, eI28, hF⟩ := qbind hF
  obtain ⟨I29, eI29, hF⟩ := qbind hF
  obtain ⟨I30, eI30, hF⟩ := qbind hF
  obtain ⟨I31, eI31, hF⟩ := qbind hF
  obtain ⟨I32, eI32, hF⟩ := qbind hF
  obtain ⟨I33, eI33, hF⟩ := qbind hF
  obtain ⟨I34, eI34, hF⟩ := qbind hF
  obtain ⟨I35, eI35, hF⟩ := qbind hF
  obtain ⟨I36, eI36, hF⟩ := qbind hF
  obtain ⟨I37, eI37, hF⟩ := qbind hF
  obtain ⟨R38, eR38, hF⟩ := qletE hF
  have E_12 : qExt R23 R38 := qExt.pr eR38
  have hW_12 : qWT R38 := hW_11.pr ha0_11 hz24 eR38
  have ha0_12 : qok R38 a0 8 := ha0_11.ext E_12
  obtain ⟨I39, eI39, hF⟩ := qletE hF
  obtain ⟨R40, eR40, hF⟩ := qletE hF
  have hz41 : qok R40 R38.2.2.1 9 := qok.z eR40
  have E_13 : qExt R38 R40 := qExt.z eR40
  have hW_13 : qWT R40 := hW_12.z eR40
  have ha0_13 : qok R40 a0 8 := ha0_12.ext E_13
  obtain ⟨R42, eR42, hF⟩ := qletE hF
  have E_14 : qExt R40 R42 := qExt.pr eR42
  have hW_14 : qWT R42 := hW_13.pr ha0_13 hz41 eR42
  have ha0_14 : qok R42 a0 8 := ha0_13.ext E_14
  obtain ⟨I43, eI43, hF⟩ := qletE hF
  obtain ⟨R44, eR44, hF⟩ := qletE hF
  have hz45 : qok R44 R42.2.2.1 9 := qok.z eR44
  have E_15 : qExt R42 R44 := qExt.z eR44
  have hW_15 : qWT R44 := hW_14.z eR44
  have ha0_15 : qok R44 a0 8 := ha0_14.ext E_15
  obtain ⟨R46, eR46, hF⟩ := qletE hF
  have E_16 : qExt R44 R46 := qExt.pr eR46
  have hW_16 : qWT R46 := hW_15.pr ha0_15 hz45 eR46
  have ha0_16 : qok R46 a0 8 := ha0_15.ext E_16
  obtain ⟨I47, eI47, hF⟩ := qletE hF
  obtain ⟨R48, eR48, hF⟩ := qletE hF
  have hz49 : qok R48 R46.2.2.1 9 := qok.z eR48
  have E_17 : qExt R46 R48 := qExt.z eR48
  have hW_17 : qWT R48 := hW_16.z eR48
  have ha0_17 : qok R48 a0 8 := ha0_16.ext E_17
  obtain ⟨R50, eR50, hF⟩ := qletE hF
  have E_18 : qExt R48 R50 := qExt.pr eR50
  have hW_18 : qWT R50 := hW_17.pr ha0_17 hz49 eR50
  have ha0_18 : qok R50 a0 8 := ha0_17.ext E_18
  obtain ⟨I51, eI51, hF⟩ := qletE hF
  obtain ⟨R52, eR52, hF⟩ := qletE hF
  have hz53 : qok R52 R50.2.2.1 9 := qok.z eR52
  have E_19 : qExt R50 R52 := qExt.z eR52
  have hW_19 : qWT R52 := hW_18.z eR52
  have ha0_19 : qok R52 a0 8 := ha0_18.ext E_19
  obtain ⟨R54, eR54, hF⟩ := qletE hF
  have E_20 : qExt R52 R54 := qExt.pr eR54
  have hW_20 : qWT R54 := hW_19.pr ha0_19 hz53 eR54
  have ha0_20 : qok R54 a0 8 := ha0_19.ext E_20
  obtain ⟨I55, eI55, hF⟩ := qletE hF
  obtain ⟨R56, eR56, hF⟩ := qletE hF
  have hz57 : qok R56 R54.2.2.1 9 := qok.z eR56
  have E_21 : qExt R54 R56 := qExt.z eR56
  have hW_21 : qWT R56 := hW_20.z eR56
  have ha0_21 : qok R56 a0 8 := ha0_20.ext E_21
  obtain ⟨R58, eR58, hF⟩ := qletE hF
  have E_22 : qExt R56 R58 := qExt.pr eR58
  have hW_22 : qWT R58 := hW_21.pr ha0_21 hz57 eR58
  have ha0_22 : qok R58 a0 8 := ha0_21.ext E_22
  obtain ⟨I59, eI59, hF⟩ := qletE hF
  obtain ⟨R60, eR60, hF⟩ := qletE hF
  have hz61 : qok R60 R58.2.2.1 9 := qok.z eR60
  have E_23 : qExt R58 R60 := qExt.z eR60
  have hW_23 : qWT R60 := hW_22.z eR60
  have ha0_23 : qok R60 a0 8 := ha0_22.ext E_23
  obtain ⟨R62, eR62, hF⟩ := qletE hF
  have E_24 : qExt R60 R62 := qExt.pr eR62
  have hW_24 : qWT R62 := hW_23.pr ha0_23 hz61 eR62
  have ha0_24 : qok R62 a0 8 := ha0_23.ext E_24
  obtain ⟨I63, eI63, hF⟩ := qletE hF
  obtain ⟨R64, eR64, hF⟩ := qletE hF
  have hz65 : qok R64 R62.2.2.1 9 := qok.z eR64
  have E_25 : qExt R62 R64 := qExt.z eR64
  have hW_25 : qWT R64 := hW_24.z eR64
  have ha0_25 : qok R64 a0 8 := ha0_24.ext E_25
  obtain ⟨R66, eR66, hF⟩ := qletE hF
  have E_26 : qExt R64 R66 := qExt.pr eR66
  have hW_26 : qWT R66 := hW_25.pr ha0_25 hz65 eR66
  have ha0_26 : qok R66 a0 8 := ha0_25.ext E_26
  obtain ⟨I67, eI67, hF⟩ := qletE hF
  obtain ⟨R68, eR68, hF⟩ := qletE hF
  have hz69 : qok R68 R66.2.2.1 9 := qok.z eR68
  have E_27 : qExt R66 R68 := qExt.z eR68
  have hW_27 : qWT R68 := hW_26.z eR68
  have ha0_27 : qok R68 a0 8 := ha0_26.ext E_27
  obtain ⟨R70, eR70, hF⟩ := qletE hF
  have E_28 : qExt R68 R70 := qExt.pr eR70
  have hW_28 : qWT R70 := hW_27.pr ha0_27 hz69 eR70
  have ha0_28 : qok R70 a0 8 := ha0_27.ext E_28
  obtain ⟨I71, eI71, hF⟩ := qletE hF
  obtain ⟨R72, eR72, hF⟩ := qletE hF
  have hz73 : qok R72 R70.2.2.1 9 := qok.z eR72
  have E_29 : qExt R70 R72 := qExt.z eR72
  have hW_29 : qWT R72 := hW_28.z eR72
  have ha0_29 : qok R72 a0 8 := ha0_28.ext E_29
  obtain ⟨R74, eR74, hF⟩ := qletE hF
  have E_30 : qExt R72 R74 := qExt.pr eR74
  have hW_30 : qWT R74 := hW_29.pr ha0_29 hz73 eR74
  have ha0_30 : qok R74 a0 8 := ha0_29.ext E_30
  obtain ⟨I75, eI75, hF⟩ := qletE hF
  obtain ⟨R76, eR76, hF⟩ := qletE hF
  have hz77 : qok R76 R74.2.2.1 9 := qok.z eR76
  have E_31 : qExt R74 R76 := qExt.z eR76
  have hW_31 : qWT R76 := hW_30.z eR76
  have ha0_31 : qok R76 a0 8 := ha0_30.ext E_31
  obtain ⟨R78, eR78, hF⟩ := qletE hF
  have E_32 : qExt R76 R78 := qExt.pr eR78
  have hW_32 : qWT R78 := hW_31.pr ha0_31 hz77 eR78
  have ha0_32 : qok R78 a0 8 := ha0_31.ext E_32
  obtain ⟨I79, eI79, hF⟩ := qletE hF
  obtain ⟨R80, eR80, hF⟩ := qletE hF
  have hz81 : qok R80 R78.2.2.1 9 := qok.z eR80
  have E_33 : qExt R78 R80 := qExt.z eR80
  have hW_33 : qWT R80 := hW_32.z eR80
  have ha0_33 : qok R80 a0 8 := ha0_32.ext E_33
  obtain ⟨R82, eR82, hF⟩ := qletE hF
  have E_34 : qExt R80 R82 := qExt.pr eR82
  have hW_34 : qWT R82 := hW_33.pr ha0_33 hz81 eR82
  have ha0_34 : qok R82 a0 8 := ha0_33.ext E_34
  obtain ⟨I83, eI83, hF⟩ := qletE hF
  obtain ⟨R84, eR84, hF⟩ := qletE hF
  have hz85 : qok R84 R82.2.2.1 10 := qok.z eR84
  have E_35 : qExt R82 R84 := qExt.z eR84
  have hW_35 : qWT R84 := hW_34.z eR84
  have ha0_35 : qok R84 a0 8 := ha0_34.ext E_35
  obtain ⟨R86, eR86, hF⟩ := qletE hF
  have E_36 : qExt R84 R86 := qExt.pr eR86
  have hW_36 : qWT R86 := hW_35.pr ha0_35 hz85 eR86
  have ha0_36 : qok R86 a0 8 := ha0_35.ext E_36
  obtain ⟨I87, eI87, hF⟩ := qletE hF
  obtain ⟨R88, eR88, hF⟩ := qletE hF
  have hz89 : qok R88 R86.2.2.1 10 := qok.z eR88
  have E_37 : qExt R86 R88 := qExt.z eR88
  have hW_37 : qWT R88 := hW_36.z eR88
  have ha0_37 : qok R88 a0 8 := ha0_36.ext E_37
  obtain ⟨R90, eR90, hF⟩ := qletE hF
  have E_38 : qExt R88 R90 := qExt.pr eR90
  have hW_38 : qWT R90 := hW_37.pr ha0_37 hz89 eR90
  have ha0_38 : qok R90 a0 8 := ha0_37.ext E_38
  obtain ⟨I91, eI91, hF⟩ := qletE hF
  obtain ⟨R92, eR92, hF⟩ := qletE hF
  have hz93 : qok R92 R90.2.2.1 9 := qok.z eR92
  have E_39 : qExt R90 R92 := qExt.z eR92
  have hW_39 : qWT R92 := hW_38.z eR92
  have ha0_39 : qok R92 a0 8 := ha0_38.ext E_39
  obtain ⟨R94, eR94, hF⟩ := qletE hF
  have E_40 : qExt R92 R94 := qExt.pr eR94
  have hW_40 : qWT R94 := hW_39.pr ha0_39 hz93 eR94
  have ha0_40 : qok R94 a0 8 := ha0_39.ext E_40
  obtain ⟨I95, eI95, hF⟩ := qletE hF
  obtain ⟨R96, eR96, hF⟩ := qletE hF
  have hz97 : qok R96 R94.2.2.1 9 := qok.z eR96
  have E_41 : qExt R94 R96 := qExt.z eR96
  have hW_41 : qWT R96 := hW_40.z eR96
  have ha0_41 : qok R96 a0 8 := ha0_40.ext E_41
  obtain ⟨R98, eR98, hF⟩ := qletE hF
  have E_42 : qExt R96 R98 := qExt.pr eR98
  have hW_42 : qWT R98 := hW_41.pr ha0_41 hz97 eR98
  have ha0_42 : qok R98 a0 8 := ha0_41.ext E_42
  obtain ⟨I99, eI99, hF⟩ := qletE hF
  obtain ⟨R100, eR100, hF⟩ := qletE hF
  have hz101 : qok R100 R98.2.2.1 9 := qok.z eR100
  have E_43 : qExt R98 R100 := qExt.z eR100
  have hW_43 : qWT R100 := hW_42.z eR100
  have ha0_43 : qok R100 a0 8 := ha0_42.ext E_43
  obtain ⟨R102, eR102, hF⟩ := qletE hF
  have E_44 : qExt R100 R102 := qExt.pr eR102
  have hW_44 : qWT R102 := hW_43.pr ha0_43 hz101 eR102
  have ha0_44 : qok R102 a0 8 := ha0_43.ext E_44
  obtain ⟨I103, eI103, hF⟩ := qletE hF
  obtain ⟨R104, eR104, hF⟩ := qletE hF
  have hz105 : qok R104 R102.2.2.1 10 := qok.z eR104
  have E_45 : qExt R102 R104 := qExt.z eR104
  have hW_45 : qWT R104 := hW_44.z eR104
  have ha0_45 : qok R104 a0 8 := ha0_44.ext E_45
  obtain ⟨R106, eR106, hF⟩ := qletE hF
  have E_46 : qExt R104 R106 := qExt.pr eR106
  have hW_46 : qWT R106 := hW_45.pr ha0_45 hz105 eR106
  have ha0_46 : qok R106 a0 8 := ha0_45.ext E_46
  obtain ⟨I107, eI107, hF⟩ := qletE hF
  obtain ⟨R108, eR108, hF⟩ := qletE hF
  have hz109 : qok R108 R106.2.2.1 10 := qok.z eR108
  have E_47 : qExt R106 R108 := qExt.z eR108
  have hW_47 : qWT R108 := hW_46.z eR108
  have ha0_47 : qok R108 a0 8 := ha0_46.ext E_47
  obtain ⟨R110, eR110, hF⟩ := qletE hF
  have E_48 : qExt R108 R110 := qExt.pr eR110
  have hW_48 : qWT R110 := hW_47.pr ha0_47 hz109 eR110
  have ha0_48 : qok R110 a0 8 := ha0_47.ext E_48
  obtain ⟨I111, eI111, hF⟩ := qletE hF
  obtain ⟨R112, eR112, hF⟩ := qletE hF
  have hz113 : qok R112 R110.2.2.1 10 := qok.z eR112
  have E_49 : qExt R110 R112 := qExt.z eR112
  have hW_49 : qWT R112 := hW_48.z eR112
  have ha0_49 : qok R112 a0 8 := ha0_48.ext E_49
  obtain ⟨R114, eR114, hF⟩ := qletE hF
  have E_50 : qExt R112 R114 := qExt.pr eR114
  have hW_50 : qWT R114 := hW_49.pr ha0_49 hz113 eR114
  have ha0_50 : qok R114 a0 8 := ha0_49.ext E_50
  obtain ⟨I115, eI115, hF⟩ := qletE hF
  obtain ⟨R116, eR116, hF⟩ := qletE hF
  have hz117 : qok R116 R114.2.2.1 9 := qok.z eR116
  have E_51 : qExt R114 R116 := qExt.z eR116
  have hW_51 : qWT R116 := hW_50.z eR116
  have ha0_51 : qok R116 a0 8 := ha0_50.ext E_51
  obtain ⟨R118, eR118, hF⟩ := qletE hF
  have E_52 : qExt R116 R118 := qExt.pr eR118
  have hW_52 : qWT R118 := hW_51.pr ha0_51 hz117 eR118
  have ha0_52 : qok R118 a0 8 := ha0_51.ext E_52
  obtain ⟨rfl, rfl⟩ := qpair hF
  have hX_52 := qX_end hW_52
  have hX_51 := qx_trans E_52 hX_52
  have hX_50 := qx_trans E_51 hX_51
  have hX_49 := qx_trans E_50 hX_50
  have hX_48 := qx_trans E_49 hX_49
  have hX_47 := qx_trans E_48 hX_48
  have hX_46 := qx_trans E_47 hX_47
  have hX_45 := qx_trans E_46 hX_46
  have hX_44 := qx_trans E_45 hX_45
  have hX_43 := qx_trans E_44 hX_44
  have hX_42 := qx_trans E_43 hX_43
  have hX_41 := qx_trans E_42 hX_42
  have hX_40 := qx_trans E_41 hX_41
  have hX_39 := qx_trans E_40 hX_40
  have hX_38 := qx_trans E_39 hX_39
  have hX_37 := qx_trans E_38 hX_38
  have hX_36 := qx_trans E_37 hX_37
  have hX_35 := qx_trans E_36 hX_36
  have hX_34 := qx_trans E_35 hX_35
  have hX_33 := qx_trans E_34 hX_34
  have hX_32 := qx_trans E_33 hX_33
  have hX_31 := qx_trans E_32 hX_32
  have hX_30 := qx_trans E_31 hX_31
  have hX_29 := qx_trans E_30 hX_30
  have hX_28 := qx_trans E_29 hX_29
  have hX_27 := qx_trans E_28 hX_28
  have hX_26 := qx_trans E_27 hX_27
  have hX_25 := qx_trans E_26 hX_26
  have hX_24 := qx_trans E_25 hX_25
  have hX_23 := qx_trans E_24 hX_24
  have hX_22 := qx_trans E_23 hX_23
  have hX_21 := qx_trans E_22 hX_22
  have hX_20 := qx_trans E_21 hX_21
  have hX_19 := qx_trans E_20 hX_20
  have hX_18 := qx_trans E_19 hX_19
  have hX_17 := qx_trans E_18 hX_18
  have hX_16 := qx_trans E_17 hX_17
  have hX_15 := qx_trans E_16 hX_16
  have hX_14 := qx_trans E_15 hX_15
  have hX_13 := qx_trans E_14 hX_14
  have hX_12 := qx_trans E_13 hX_13
  have hX_11 := qx_trans E_12 hX_12
  have hX_10 := qx_trans E_11 hX_11
  have hX_9 := qx_trans E_10 hX_10
  have hX_8 := qx_trans E_9 hX_9
  have hX_7 := qx_trans E_8 hX_8
  have hX_6 := qx_trans E_7 hX_7
  have hX_5 := qx_trans E_6 hX_6
  have hX_4 := qx_trans E_5 hX_5
  have hX_3 := qx_trans E_4 hX_4
  have hX_2 := qx_trans E_3 hX_3
  have hX_1 := qx_trans E_2 hX_2
  have hX := qx_trans E_1 hX_1
  refine qMt_of (by decide) (Nat.le_of_ble_eq_true rfl) ⟨hX.2.1, hX.2.2.1⟩ ?_
  show AW _ 0 [(0, .ref (G.1 + a0))] [] I R
  refine aw_aload_n dX8_init_0 0 rfl rfl ?_
  refine aw_objInit cl_X8_1 cx_oi cx_oc rfl (Nat.le_of_ble_eq_true rfl) (Nat.le_of_ble_eq_true rfl) (Nat.le_of_ble_eq_true rfl) dX8_init_1 ?_
  refine aw_aload_n dX8_init_4 0 rfl rfl ?_
  refine aw_iconst (v := (5 : Int32)) dX8_init_5 (by decide) ?_
  refine aw_putiq fl_X8_7 (by decide) fs_X8_2 fn_X8_2 ft_X8_2 ha0 eI1 rfl dX8_init_6 ?_
  refine aw_aload_n dX8_init_9 0 rfl rfl ?_
  refine aw_bipush (v := (10 : Int32)) dX8_init_10 (by decide) ?_
  refine aw_newiq (by decide) (by decide) (by decide) eI2 eR3 hX_1.2 dX8_init_12 ?_
  refine aw_putFq fl_X8_13 (by decide) fs_X8_3 fn_X8_3 ft_X8_3 fo_X8 rfl ha0_1 eR5 rfl dX8_init_14 ?_
  refine aw_aload_n dX8_init_17 0 rfl rfl ?_
  refine aw_bipush (v := (10 : Int32)) dX8_init_18 (by decide) ?_
  refine aw_newiq (by decide) (by decide) (by decide) eI6 eR7 hX_3.2 dX8_init_20 ?_
  refine aw_putFq fl_X8_17 (by decide) fs_X8_4 fn_X8_4 ft_X8_4 fo_X8 rfl ha0_3 eR9 rfl dX8_init_22 ?_
  refine aw_aload_n dX8_init_25 0 rfl rfl ?_
  refine aw_bipush (v := (70 : Int32)) dX8_init_26 (by decide) ?_
  refine aw_newiq (by decide) (by decide) (by decide) eI10 eR11 hX_5.2 dX8_init_28 ?_
  refine aw_putFq fl_X8_20 (by decide) fs_X8_5 fn_X8_5 ft_X8_5 fo_X8 rfl ha0_5 eR13 rfl dX8_init_30 ?_
  refine aw_aload_n dX8_init_33 0 rfl rfl ?_
  refine aw_bipush (v := (70 : Int32)) dX8_init_34 (by decide) ?_
  refine aw_newiq (by decide) (by decide) (by decide) eI14 eR15 hX_7.2 dX8_init_36 ?_
  refine aw_putFq fl_X8_23 (by decide) fs_X8_6 fn_X8_6 ft_X8_6 fo_X8 rfl ha0_7 eR17 rfl dX8_init_38 ?_
  refine aw_aload_n dX8_init_41 0 rfl rfl ?_
  refine aw_bipush (v := (70 : Int32)) dX8_init_42 (by decide) ?_
  refine aw_newiq (by decide) (by decide) (by decide) eI18 eR19 hX_9.2 dX8_init_44 ?_
  refine aw_putFq fl_X8_26 (by decide) fs_X8_7 fn_X8_7 ft_X8_7 fo_X8 rfl ha0_9 eR21 rfl dX8_init_46 ?_
  refine aw_aload_n dX8_init_49 0 rfl rfl ?_
  refine aw_bipush (v := (13 : Int32)) dX8_init_50 (by decide) ?_
  refine aw_newiq (by decide) (by decide) (by decide) eI22 eR23 hX_11.2 dX8_init_52 ?_
  refine aw_dup dX8_init_54 rfl ?_
  refine aw_iconst (v := (0 : Int32)) dX8_init_55 (by decide) ?_
  refine aw_iconst (v := (1 : Int32)) dX8_init_56 (by decide) ?_
  refine aw_iastq hz24 eI25 dX8_init_57 ?_
  refine aw_dup dX8_init_58 rfl ?_
  refine aw_iconst (v := (1 : Int32)) dX8_init_59 (by decide) ?_
  refine aw_iconst (v := (2 : Int32)) dX8_init_60 (by decide) ?_
  refine aw_iastq hz24 eI26 dX8_init_61 ?_
  refine aw_dup dX8_init_62 rfl ?_
  refine aw_iconst (v := (2 : Int32)) dX8_init_63 (by decide) ?_
  refine aw_iconst (v := (4 : Int32)) dX8_init_64 (by decide) ?_
  refine aw_iastq hz24 eI27 dX8_init_65 ?_
  refine aw_dup dX8_init_66 rfl ?_
  refine aw_iconst (v := (3 : Int32)) dX8_init_67 (by decide) ?_
  refine aw_bipush (v := (8 : Int32)) dX8_init_68 (by decide) ?_
  refine aw_iastq hz24 eI28 dX8_init_70 ?_
  refine aw_dup dX8_init_71 rfl ?_
  refine aw_iconst (v := (4 : Int32)) dX8_init_72 (by decide) ?_
  refine aw_bipush (v := (16 : Int32)) dX8_init_73 (by decide) ?_
  refine aw_iastq hz24 eI29 dX8_init_75 ?_
  refine aw_dup dX8_init_76 rfl ?_
  refine aw_iconst (v := (5 : Int32)) dX8_init_77 (by decide) ?_
  refine aw_bipush (v := (32 : Int32)) dX8_init_78 (by decide) ?_
  refine aw_iastq hz24 eI30 dX8_init_80 ?_
  refine aw_dup dX8_init_81 rfl ?_
  refine aw_bipush (v := (6 : Int32)) dX8_init_82 (by decide) ?_
  refine aw_bipush (v := (64 : Int32)) dX8_init_84 (by decide) ?_
  refine aw_iastq hz24 eI31 dX8_init_86 ?_
  refine aw_dup dX8_init_87 rfl ?_
  refine aw_bipush (v := (7 : Int32)) dX8_init_88 (by decide) ?_
  refine aw_iconst (v := (0 : Int32)) dX8_init_90 (by decide) ?_
  refine aw_iastq hz24 eI32 dX8_init_91 ?_
  refine aw_dup dX8_init_92 rfl ?_
  refine aw_bipush (v := (8 : Int32)) dX8_init_93 (by decide) ?_
  refine aw_iconst (v := (0 : Int32)) dX8_init_95 (by decide) ?_
  refine aw_iastq hz24 eI33 dX8_init_96 ?_
  refine aw_dup dX8_init_97 rfl ?_
  refine aw_bipush (v := (9 : Int32)) dX8_init_98 (by decide) ?_
  refine aw_iconst (v := (0 : Int32)) dX8_init_100 (by decide) ?_
  refine aw_iastq hz24 eI34 dX8_init_101 ?_
  refine aw_dup dX8_init_102 rfl ?_
  refine aw_bipush (v := (10 : Int32)) dX8_init_103 (by decide) ?_
  refine aw_iconst (v := (0 : Int32)) dX8_init_105 (by decide) ?_
  refine aw_iastq hz24 eI35 dX8_init_106 ?_
  refine aw_dup dX8_init_107 rfl ?_
  refine aw_bipush (v := (11 : Int32)) dX8_init_108 (by decide) ?_
  refine aw_iconst (v := (0 : Int32)) dX8_init_110 (by decide) ?_
  refine aw_iastq hz24 eI36 dX8_init_111 ?_
  refine aw_dup dX8_init_112 rfl ?_
  refine aw_bipush (v := (12 : Int32)) dX8_init_113 (by decide) ?_
  refine aw_iconst (v := (0 : Int32)) dX8_init_115 (by decide) ?_
  refine aw_iastq hz24 eI37 dX8_init_116 ?_
  refine aw_putFq fl_X8_29 (by decide) fs_X8_8 fn_X8_8 ft_X8_8 fo_X8 rfl ha0_11 eR38 rfl dX8_init_117 ?_
  refine aw_aload_n dX8_init_120 0 rfl rfl ?_
  refine aw_bipush (v := (42 : Int32)) dX8_init_121 (by decide) ?_
  refine aw_newiq (by decide) (by decide) (by decide) eI39 eR40 hX_13.2 dX8_init_123 ?_
  refine aw_putFq fl_X8_32 (by decide) fs_X8_11 fn_X8_11 ft_X8_11 fo_X8 rfl ha0_13 eR42 rfl dX8_init_125 ?_
  refine aw_aload_n dX8_init_128 0 rfl rfl ?_
  refine aw_bipush (v := (6 : Int32)) dX8_init_129 (by decide) ?_
  refine aw_newiq (by decide) (by decide) (by decide) eI43 eR44 hX_15.2 dX8_init_131 ?_
  refine aw_putFq fl_X8_35 (by decide) fs_X8_12 fn_X8_12 ft_X8_12 fo_X8 rfl ha0_15 eR46 rfl dX8_init_133 ?_
  refine aw_aload_n dX8_init_136 0 rfl rfl ?_
  refine aw_bipush (v := (6 : Int32)) dX8_init_137 (by decide) ?_
  refine aw_newiq (by decide) (by decide) (by decide) eI47 eR48 hX_17.2 dX8_init_139 ?_
  refine aw_putFq fl_X8_38 (by decide) fs_X8_13 fn_X8_13 ft_X8_13 fo_X8 rfl ha0_17 eR50 rfl dX8_init_141 ?_
  refine aw_aload_n dX8_init_144 0 rfl rfl ?_
  refine aw_bipush (v := (42 : Int32)) dX8_init_145 (by decide) ?_
  refine aw_newiq (by decide) (by decide) (by decide) eI51 eR52 hX_19.2 dX8_init_147 ?_
  refine aw_putFq fl_X8_41 (by decide) fs_X8_14 fn_X8_14 ft_X8_14 fo_X8 rfl ha0_19 eR54 rfl dX8_init_149 ?_
  refine aw_aload_n dX8_init_152 0 rfl rfl ?_
  refine aw_bipush (v := (42 : Int32)) dX8_init_153 (by decide) ?_
  refine aw_newiq (by decide) (by decide) (by decide) eI55 eR56 hX_21.2 dX8_init_155 ?_
  refine aw_putFq fl_X8_44 (by decide) fs_X8_15 fn_X8_15 ft_X8_15 fo_X8 rfl ha0_21 eR58 rfl dX8_init_157 ?_
  refine aw_aload_n dX8_init_160 0 rfl rfl ?_
  refine aw_bipush (v := (42 : Int32)) dX8_init_161 (by decide) ?_
  refine aw_newiq (by decide) (by decide) (by decide) eI59 eR60 hX_23.2 dX8_init_163 ?_
  refine aw_putFq fl_X8_47 (by decide) fs_X8_16 fn_X8_16 ft_X8_16 fo_X8 rfl ha0_23 eR62 rfl dX8_init_165 ?_
  refine aw_aload_n dX8_init_168 0 rfl rfl ?_
  refine aw_bipush (v := (42 : Int32)) dX8_init_169 (by decide) ?_
  refine aw_newiq (by decide) (by decide) (by decide) eI63 eR64 hX_25.2 dX8_init_171 ?_
  refine aw_putFq fl_X8_50 (by decide) fs_X8_17 fn_X8_17 ft_X8_17 fo_X8 rfl ha0_25 eR66 rfl dX8_init_173 ?_
  refine aw_aload_n dX8_init_176 0 rfl rfl ?_
  refine aw_bipush (v := (6 : Int32)) dX8_init_177 (by decide) ?_
  refine aw_newiq (by decide) (by decide) (by decide) eI67 eR68 hX_27.2 dX8_init_179 ?_
  refine aw_putFq fl_X8_53 (by decide) fs_X8_18 fn_X8_18 ft_X8_18 fo_X8 rfl ha0_27 eR70 rfl dX8_init_181 ?_
  refine aw_aload_n dX8_init_184 0 rfl rfl ?_
  refine aw_bipush (v := (6 : Int32)) dX8_init_185 (by decide) ?_
  refine aw_newiq (by decide) (by decide) (by decide) eI71 eR72 hX_29.2 dX8_init_187 ?_
  refine aw_putFq fl_X8_56 (by decide) fs_X8_19 fn_X8_19 ft_X8_19 fo_X8 rfl ha0_29 eR74 rfl dX8_init_189 ?_
  refine aw_aload_n dX8_init_192 0 rfl rfl ?_
  refine aw_ldc ck_X8_59 rfl dX8_init_193 ?_
  refine aw_newiq (by decide) (by decide) (by decide) eI75 eR76 hX_31.2 dX8_init_195 ?_
  refine aw_putFq fl_X8_60 (by decide) fs_X8_21 fn_X8_21 ft_X8_21 fo_X8 rfl ha0_31 eR78 rfl dX8_init_197 ?_
  refine aw_aload_n dX8_init_200 0 rfl rfl ?_
  refine aw_bipush (v := (6 : Int32)) dX8_init_201 (by decide) ?_
  refine aw_newiq (by decide) (by decide) (by decide) eI79 eR80 hX_33.2 dX8_init_203 ?_
  refine aw_putFq fl_X8_63 (by decide) fs_X8_22 fn_X8_22 ft_X8_22 fo_X8 rfl ha0_33 eR82 rfl dX8_init_205 ?_
  refine aw_aload_n dX8_init_208 0 rfl rfl ?_
  refine aw_bipush (v := (70 : Int32)) dX8_init_209 (by decide) ?_
  refine aw_newzq (by decide) (by decide) (by decide) eI83 eR84 hX_35.2 dX8_init_211 ?_
  refine aw_putFq fl_X8_66 (by decide) fs_X8_23 fn_X8_23 ft_X8_23 fo_X8 rfl ha0_35 eR86 rfl dX8_init_213 ?_
  refine aw_aload_n dX8_init_216 0 rfl rfl ?_
  refine aw_sipush (v := (770 : Int32)) dX8_init_217 (by decide) ?_
  refine aw_newzq (by decide) (by decide) (by decide) eI87 eR88 hX_37.2 dX8_init_220 ?_
  refine aw_putFq fl_X8_70 (by decide) fs_X8_24 fn_X8_24 ft_X8_24 fo_X8 rfl ha0_37 eR90 rfl dX8_init_222 ?_
  refine aw_aload_n dX8_init_225 0 rfl rfl ?_
  refine aw_bipush (v := (10 : Int32)) dX8_init_226 (by decide) ?_
  refine aw_newiq (by decide) (by decide) (by decide) eI91 eR92 hX_39.2 dX8_init_228 ?_
  refine aw_putFq fl_X8_73 (by decide) fs_X8_27 fn_X8_27 ft_X8_27 fo_X8 rfl ha0_39 eR94 rfl dX8_init_230 ?_
  refine aw_aload_n dX8_init_233 0 rfl rfl ?_
  refine aw_bipush (v := (10 : Int32)) dX8_init_234 (by decide) ?_
  refine aw_newiq (by decide) (by decide) (by decide) eI95 eR96 hX_41.2 dX8_init_236 ?_
  refine aw_putFq fl_X8_76 (by decide) fs_X8_28 fn_X8_28 ft_X8_28 fo_X8 rfl ha0_41 eR98 rfl dX8_init_238 ?_
  refine aw_aload_n dX8_init_241 0 rfl rfl ?_
  refine aw_bipush (v := (10 : Int32)) dX8_init_242 (by decide) ?_
  refine aw_newiq (by decide) (by decide) (by decide) eI99 eR100 hX_43.2 dX8_init_244 ?_
  refine aw_putFq fl_X8_79 (by decide) fs_X8_29 fn_X8_29 ft_X8_29 fo_X8 rfl ha0_43 eR102 rfl dX8_init_246 ?_
  refine aw_aload_n dX8_init_249 0 rfl rfl ?_
  refine aw_bipush (v := (70 : Int32)) dX8_init_250 (by decide) ?_
  refine aw_newzq (by decide) (by decide) (by decide) eI103 eR104 hX_45.2 dX8_init_252 ?_
  refine aw_putFq fl_X8_82 (by decide) fs_X8_30 fn_X8_30 ft_X8_30 fo_X8 rfl ha0_45 eR106 rfl dX8_init_254 ?_
  refine aw_aload_n dX8_init_257 0 rfl rfl ?_
  refine aw_bipush (v := (70 : Int32)) dX8_init_258 (by decide) ?_
  refine aw_newzq (by decide) (by decide) (by decide) eI107 eR108 hX_47.2 dX8_init_260 ?_
  refine aw_putFq fl_X8_85 (by decide) fs_X8_31 fn_X8_31 ft_X8_31 fo_X8 rfl ha0_47 eR110 rfl dX8_init_262 ?_
  refine aw_aload_n dX8_init_265 0 rfl rfl ?_
  refine aw_bipush (v := (70 : Int32)) dX8_init_266 (by decide) ?_
  refine aw_newzq (by decide) (by decide) (by decide) eI111 eR112 hX_49.2 dX8_init_268 ?_
  refine aw_putFq fl_X8_88 (by decide) fs_X8_32 fn_X8_32 ft_X8_32 fo_X8 rfl ha0_49 eR114 rfl dX8_init_270 ?_
  refine aw_aload_n dX8_init_273 0 rfl rfl ?_
  refine aw_bipush (v := (10 : Int32)) dX8_init_274 (by decide) ?_
  refine aw_newiq (by decide) (by decide) (by decide) eI115 eR116 hX_51.2 dX8_init_276 ?_
  refine aw_putFq fl_X8_91 (by decide) fs_X8_34 fn_X8_34 ft_X8_34 fo_X8 rfl ha0_51 eR118 rfl dX8_init_278 ?_
  exact aw_vret rfl dX8_init_281 rfl rfl rfl
