def fX7_row (R : qR) (I : qI) (a0 : Nat) (p1 : Int32) : Option (Int32) :=
  (R.1 a0 2).bind fun r1 =>
  (fX4_hasRow R I r1 p1).bind fun y2 =>
  if y2 = 0 then
    (some (-1 : Int32))
  else
    ((fX4_stationOf R I r1 p1).bind fun y4 =>
    some y4)
set_option maxHeartbeats 4000000 in
set_option maxRecDepth 100000 in
theorem sX7_row {l : Launch} {G : qG} {R : qR} {I : qI} {a0 : Nat} {p1 : Int32} {rv : Int32} (hW : qWT R) (ha0 : qok R a0 7) (hF : fX7_row R I a0 p1 = some rv) : qMt l G mX7_row 2 [.ref (G.1 + a0), .int p1] I R (some (.int rv)) I R := by
  unfold fX7_row at hF
  refine qMt_of (by decide) (Nat.le_of_ble_eq_true rfl) ⟨Nat.le_refl _, Nat.le_refl _⟩ ?_
  show AW _ 0 [(0, .ref (G.1 + a0)), (1, .int p1)] [] I R
  refine aw_aload_n dX7_row_0 0 rfl rfl ?_
  obtain ⟨r1, er1, hF⟩ := qbind hF
  have kr1 : qok R r1 4 := hW.get ha0 er1 rfl
  refine aw_getr fl_X7_25 (by decide) fg_X7_2 ha0 er1 rfl dX7_row_1 ?_
  refine aw_iload_n dX7_row_4 1 rfl rfl ?_
  obtain ⟨y2, ey2, hF⟩ := qbind hF
  refine aw_callVi (As := [.int p1]) (sX4_hasRow hW kr1 ey2) cl_X7_109 rfl (qroomL (by decide) (by decide)) rfl kr1 (Nat.le_of_ble_eq_true rfl) dX7_row_5 rfl ?_
  refine aw_if_eq (tgt := 22) dX7_row_8 (by decide) (fun c3 => ?_) (fun c3 => ?_)
  · rw [if_pos c3] at hF
    refine aw_iconst (v := (-1 : Int32)) dX7_row_22 (by decide) ?_
    cases hF
    exact aw_iret rfl dX7_row_23 rfl rfl rfl
  · rw [if_neg c3] at hF
    refine aw_aload_n dX7_row_11 0 rfl rfl ?_
    refine aw_getr fl_X7_25 (by decide) fg_X7_2 ha0 er1 rfl dX7_row_12 ?_
    refine aw_iload_n dX7_row_15 1 rfl rfl ?_
    obtain ⟨y4, ey4, hF⟩ := qbind hF
    refine aw_callVi (As := [.int p1]) (sX4_stationOf hW kr1 ey4) cl_X7_112 rfl (qroomL (by decide) (by decide)) rfl kr1 (Nat.le_of_ble_eq_true rfl) dX7_row_16 rfl ?_
    refine aw_goto (tgt := 23) dX7_row_19 (by decide) ?_
    cases hF
    exact aw_iret rfl dX7_row_23 rfl rfl rfl
def fX7_column (R : qR) (I : qI) (a0 : Nat) (p1 : Int32) : Option (Int32) :=
  (R.1 a0 2).bind fun r1 =>
  (fX4_hasColumn R I r1 p1).bind fun y2 =>
  if y2 = 0 then
    (some (-1 : Int32))
  else
    ((fX4_trainOf R I r1 p1).bind fun y4 =>
    some y4)
set_option maxHeartbeats 4000000 in
set_option maxRecDepth 100000 in
theorem sX7_column {l : Launch} {G : qG} {R : qR} {I : qI} {a0 : Nat} {p1 : Int32} {rv : Int32} (hW : qWT R) (ha0 : qok R a0 7) (hF : fX7_column R I a0 p1 = some rv) : qMt l G mX7_column 2 [.ref (G.1 + a0), .int p1] I R (some (.int rv)) I R := by
  unfold fX7_column at hF
  refine qMt_of (by decide) (Nat.le_of_ble_eq_true rfl) ⟨Nat.le_refl _, Nat.le_refl _⟩ ?_
  show AW _ 0 [(0, .ref (G.1 + a0)), (1, .int p1)] [] I R
  refine aw_aload_n dX7_column_0 0 rfl rfl ?_
  obtain ⟨r1, er1, hF⟩ := qbind hF
  have kr1 : qok R r1 4 := hW.get ha0 er1 rfl
  refine aw_getr fl_X7_25 (by decide) fg_X7_2 ha0 er1 rfl dX7_column_1 ?_
  refine aw_iload_n dX7_column_4 1 rfl rfl ?_
  obtain ⟨y2, ey2, hF⟩ := qbind hF
  refine aw_callVi (As := [.int p1]) (sX4_hasColumn hW kr1 ey2) cl_X7_115 rfl (qroomL (by decide) (by decide)) rfl kr1 (Nat.le_of_ble_eq_true rfl) dX7_column_5 rfl ?_
  refine aw_if_eq (tgt := 22) dX7_column_8 (by decide) (fun c3 => ?_) (fun c3 => ?_)
  · rw [if_pos c3] at hF
    refine aw_iconst (v := (-1 : Int32)) dX7_column_22 (by decide) ?_
    cases hF
    exact aw_iret rfl dX7_column_23 rfl rfl rfl
  · rw [if_neg c3] at hF
    refine aw_aload_n dX7_column_11 0 rfl rfl ?_
    refine aw_getr fl_X7_25 (by decide) fg_X7_2 ha0 er1 rfl dX7_column_12 ?_
    refine aw_iload_n dX7_column_15 1 rfl rfl ?_
    obtain ⟨y4, ey4, hF⟩ := qbind hF
    refine aw_callVi (As := [.int p1]) (sX4_trainOf hW kr1 ey4) cl_X7_118 rfl (qroomL (by decide) (by decide)) rfl kr1 (Nat.le_of_ble_eq_true rfl) dX7_column_16 rfl ?_
    refine aw_goto (tgt := 23) dX7_column_19 (by decide) ?_
    cases hF
    exact aw_iret rfl dX7_column_23 rfl rfl rfl
def fX7_cell (N : Nat) (R : qR) (I : qI) (a0 : Nat) (p1 : Int32) (p2 : Int32) (p3 : Int32) : Option (Int32) :=
  (R.1 a0 2).bind fun r1 =>
  (fX4_hasRow R I r1 p1).bind fun y2 =>
  if y2 = 0 then
    (some (-3 : Int32))
  else
    ((fX4_hasColumn R I r1 p2).bind fun y4 =>
    if y4 = 0 then
      (some (-3 : Int32))
    else
      (if p3 < 0 then
        (some (-3 : Int32))
      else
        (if p3 ≤ (1 : Int32) then
          (if p3 = 0 then
            ((fX4_read N R I r1 p1 p2 (1 : Int32)).bind fun y10 =>
            some y10)
          else
            ((fX4_read N R I r1 p1 p2 (0 : Int32)).bind fun y9 =>
            some y9))
        else
          (some (-3 : Int32)))))
set_option maxHeartbeats 4000000 in
set_option maxRecDepth 100000 in
theorem sX7_cell {l : Launch} {G : qG} {N : Nat} {R : qR} {I : qI} {a0 : Nat} {p1 : Int32} {p2 : Int32} {p3 : Int32} {rv : Int32} (hW : qWT R) (ha0 : qok R a0 7) (hF : fX7_cell N R I a0 p1 p2 p3 = some rv) : qMt l G mX7_cell 3 [.ref (G.1 + a0), .int p1, .int p2, .int p3] I R (some (.int rv)) I R := by
  unfold fX7_cell at hF
  refine qMt_of (by decide) (Nat.le_of_ble_eq_true rfl) ⟨Nat.le_refl _, Nat.le_refl _⟩ ?_
  show AW _ 0 [(0, .ref (G.1 + a0)), (1, .int p1), (2, .int p2), (3, .int p3)] [] I R
  refine aw_aload_n dX7_cell_0 0 rfl rfl ?_
  obtain ⟨r1, er1, hF⟩ := qbind hF
  have kr1 : qok R r1 4 := hW.get ha0 er1 rfl
  refine aw_getr fl_X7_25 (by decide) fg_X7_2 ha0 er1 rfl dX7_cell_1 ?_
  refine aw_iload_n dX7_cell_4 1 rfl rfl ?_
  obtain ⟨y2, ey2, hF⟩ := qbind hF
  refine aw_callVi (As := [.int p1]) (sX4_hasRow hW kr1 ey2) cl_X7_109 rfl (qroomL (by decide) (by decide)) rfl kr1 (Nat.le_of_ble_eq_true rfl) dX7_cell_5 rfl ?_
  refine aw_if_eq (tgt := 31) dX7_cell_8 (by decide) (fun c3 => ?_) (fun c3 => ?_)
  · rw [if_pos c3] at hF
    refine aw_bipush (v := (-3 : Int32)) dX7_cell_31 (by decide) ?_
    cases hF
    exact aw_iret rfl dX7_cell_33 rfl rfl rfl
  · rw [if_neg c3] at hF
    refine aw_aload_n dX7_cell_11 0 rfl rfl ?_
    refine aw_getr fl_X7_25 (by decide) fg_X7_2 ha0 er1 rfl dX7_cell_12 ?_
    refine aw_iload_n dX7_cell_15 2 rfl rfl ?_
    obtain ⟨y4, ey4, hF⟩ := qbind hF
    refine aw_callVi (As := [.int p2]) (sX4_hasColumn hW kr1 ey4) cl_X7_115 rfl (qroomL (by decide) (by decide)) rfl kr1 (Nat.le_of_ble_eq_true rfl) dX7_cell_16 rfl ?_
    refine aw_if_eq (tgt := 31) dX7_cell_19 (by decide) (fun c5 => ?_) (fun c5 => ?_)
    · rw [if_pos c5] at hF
      refine aw_bipush (v := (-3 : Int32)) dX7_cell_31 (by decide) ?_
      cases hF
      exact aw_iret rfl dX7_cell_33 rfl rfl rfl
    · rw [if_neg c5] at hF
      refine aw_iload_n dX7_cell_22 3 rfl rfl ?_
      refine aw_if_lt (tgt := 31) dX7_cell_23 (by decide) (fun c6 => ?_) (fun c6 => ?_)
      · rw [if_pos c6] at hF
        refine aw_bipush (v := (-3 : Int32)) dX7_cell_31 (by decide) ?_
        cases hF
        exact aw_iret rfl dX7_cell_33 rfl rfl rfl
      · rw [if_neg c6] at hF
        refine aw_iload_n dX7_cell_26 3 rfl rfl ?_
        refine aw_iconst (v := (1 : Int32)) dX7_cell_27 (by decide) ?_
        refine aw_icmp_le (tgt := 34) dX7_cell_28 (by decide) (fun c7 => ?_) (fun c7 => ?_)
        · rw [if_pos c7] at hF
          refine aw_aload_n dX7_cell_34 0 rfl rfl ?_
          refine aw_getr fl_X7_25 (by decide) fg_X7_2 ha0 er1 rfl dX7_cell_35 ?_
          refine aw_iload_n dX7_cell_38 1 rfl rfl ?_
          refine aw_iload_n dX7_cell_39 2 rfl rfl ?_
          refine aw_iload_n dX7_cell_40 3 rfl rfl ?_
          refine aw_if_ne (tgt := 48) dX7_cell_41 (by decide) (fun c8 => ?_) (fun c8 => ?_)
          · rw [if_neg c8] at hF
            refine aw_iconst (v := (0 : Int32)) dX7_cell_48 (by decide) ?_
            obtain ⟨y9, ey9, hF⟩ := qbind hF
            refine aw_callVi (As := [.int p1, .int p2, .int (0 : Int32)]) (sX4_read hW kr1 ey9) cl_X7_120 rfl (qroomL (by decide) (by decide)) rfl kr1 (Nat.le_of_ble_eq_true rfl) dX7_cell_49 rfl ?_
            cases hF
            exact aw_iret rfl dX7_cell_52 rfl rfl rfl
          · rw [if_pos c8] at hF
            refine aw_iconst (v := (1 : Int32)) dX7_cell_44 (by decide) ?_
            refine aw_goto (tgt := 49) dX7_cell_45 (by decide) ?_
            obtain ⟨y10, ey10, hF⟩ := qbind hF
            refine aw_callVi (As := [.int p1, .int p2, .int (1 : Int32)]) (sX4_read hW kr1 ey10) cl_X7_120 rfl (qroomL (by decide) (by decide)) rfl kr1 (Nat.le_of_ble_eq_true rfl) dX7_cell_49 rfl ?_
            cases hF
            exact aw_iret rfl dX7_cell_52 rfl rfl rfl
        · rw [if_neg c7] at hF
          refine aw_bipush (v := (-3 : Int32)) dX7_cell_31 (by decide) ?_
          cases hF
          exact aw_iret rfl dX7_cell_33 rfl rfl rfl
def fX7_breaches (R : qR) (I : qI) (a0 : Nat) (p1 : Int32) : Option (Int32) :=
  (R.1 a0 2).bind fun r1 =>
  (fX4_isMade R I r1).bind fun y2 =>
  if y2 = 0 then
    (some (-1 : Int32))
  else
    (if p1 < 0 then
      (some (-1 : Int32))
    else
      (if p1 ≤ (1 : Int32) then
        (if p1 = 0 then
          ((fX4_countBreaches R I r1).bind fun y8 =>
          some y8)
        else
          ((fX4_countKnots R I r1).bind fun y7 =>
          some y7))
      else
        (some (-1 : Int32))))
set_option maxHeartbeats 4000000 in
set_option maxRecDepth 100000 in
theorem sX7_breaches {l : Launch} {G : qG} {R : qR} {I : qI} {a0 : Nat} {p1 : Int32} {rv : Int32} (hW : qWT R) (ha0 : qok R a0 7) (hF : fX7_breaches R I a0 p1 = some rv) : qMt l G mX7_breaches 2 [.ref (G.1 + a0), .int p1] I R (some (.int rv)) I R := by
  unfold fX7_breaches at hF
  refine qMt_of (by decide) (Nat.le_of_ble_eq_true rfl) ⟨Nat.le_refl _, Nat.le_refl _⟩ ?_
  show AW _ 0 [(0, .ref (G.1 + a0)), (1, .int p1)] [] I R
  refine aw_aload_n dX7_breaches_0 0 rfl rfl ?_
  obtain ⟨r1, er1, hF⟩ := qbind hF
  have kr1 : qok R r1 4 := hW.get ha0 er1 rfl
  refine aw_getr fl_X7_25 (by decide) fg_X7_2 ha0 er1 rfl dX7_breaches_1 ?_
  obtain ⟨y2, ey2, hF⟩ := qbind hF
  refine aw_callVi (As := []) (sX4_isMade hW kr1 ey2) cl_X7_123 rfl (qroomL (by decide) (by decide)) rfl kr1 (Nat.le_of_ble_eq_true rfl) dX7_breaches_4 rfl ?_
  refine aw_if_eq (tgt := 19) dX7_breaches_7 (by decide) (fun c3 => ?_) (fun c3 => ?_)
  · rw [if_pos c3] at hF
    refine aw_iconst (v := (-1 : Int32)) dX7_breaches_19 (by decide) ?_
    cases hF
    exact aw_iret rfl dX7_breaches_20 rfl rfl rfl
  · rw [if_neg c3] at hF
    refine aw_iload_n dX7_breaches_10 1 rfl rfl ?_
    refine aw_if_lt (tgt := 19) dX7_breaches_11 (by decide) (fun c4 => ?_) (fun c4 => ?_)
    · rw [if_pos c4] at hF
      refine aw_iconst (v := (-1 : Int32)) dX7_breaches_19 (by decide) ?_
      cases hF
      exact aw_iret rfl dX7_breaches_20 rfl rfl rfl
    · rw [if_neg c4] at hF
      refine aw_iload_n dX7_breaches_14 1 rfl rfl ?_
      refine aw_iconst (v := (1 : Int32)) dX7_breaches_15 (by decide) ?_
      refine aw_icmp_le (tgt := 21) dX7_breaches_16 (by decide) (fun c5 => ?_) (fun c5 => ?_)
      · rw [if_pos c5] at hF
        refine aw_iload_n dX7_breaches_21 1 rfl rfl ?_
        refine aw_if_ne (tgt := 35) dX7_breaches_22 (by decide) (fun c6 => ?_) (fun c6 => ?_)
        · rw [if_neg c6] at hF
          refine aw_aload_n dX7_breaches_35 0 rfl rfl ?_
          refine aw_getr fl_X7_25 (by decide) fg_X7_2 ha0 er1 rfl dX7_breaches_36 ?_
          obtain ⟨y7, ey7, hF⟩ := qbind hF
          refine aw_callVi (As := []) (sX4_countKnots hW kr1 ey7) cl_X7_130 rfl (qroomL (by decide) (by decide)) rfl kr1 (Nat.le_of_ble_eq_true rfl) dX7_breaches_39 rfl ?_
          cases hF
          exact aw_iret rfl dX7_breaches_42 rfl rfl rfl
        · rw [if_pos c6] at hF
          refine aw_aload_n dX7_breaches_25 0 rfl rfl ?_
          refine aw_getr fl_X7_25 (by decide) fg_X7_2 ha0 er1 rfl dX7_breaches_26 ?_
          obtain ⟨y8, ey8, hF⟩ := qbind hF
          refine aw_callVi (As := []) (sX4_countBreaches hW kr1 ey8) cl_X7_127 rfl (qroomL (by decide) (by decide)) rfl kr1 (Nat.le_of_ble_eq_true rfl) dX7_breaches_29 rfl ?_
          refine aw_goto (tgt := 42) dX7_breaches_32 (by decide) ?_
          cases hF
          exact aw_iret rfl dX7_breaches_42 rfl rfl rfl
      · rw [if_neg c5] at hF
        refine aw_iconst (v := (-1 : Int32)) dX7_breaches_19 (by decide) ?_
        cases hF
        exact aw_iret rfl dX7_breaches_20 rfl rfl rfl
def fX7_breach (R : qR) (I : qI) (a0 : Nat) (p1 : Int32) (p2 : Int32) : Option (Int32) :=
  (R.1 a0 2).bind fun r1 =>
  (fX4_hasColumn R I r1 p1).bind fun y2 =>
  if y2 = 0 then
    (some (-1 : Int32))
  else
    ((fX4_hasColumn R I r1 p2).bind fun y4 =>
    if y4 = 0 then
      (some (-1 : Int32))
    else
      (if p1 < p2 then
        ((fX4_isBreach R I r1 p1 p2).bind fun y7 =>
        if y7 = 0 then
          (some (0 : Int32))
        else
          (some (1 : Int32)))
      else
        (some (-1 : Int32))))
set_option maxHeartbeats 4000000 in
set_option maxRecDepth 100000 in
theorem sX7_breach {l : Launch} {G : qG} {R : qR} {I : qI} {a0 : Nat} {p1 : Int32} {p2 : Int32} {rv : Int32} (hW : qWT R) (ha0 : qok R a0 7) (hF : fX7_breach R I a0 p1 p2 = some rv) : qMt l G mX7_breach 3 [.ref (G.1 + a0), .int p1, .int p2] I R (some (.int rv)) I R := by
  unfold fX7_breach at hF
  refine qMt_of (by decide) (Nat.le_of_ble_eq_true rfl) ⟨Nat.le_refl _, Nat.le_refl _⟩ ?_
  show AW _ 0 [(0, .ref (G.1 + a0)), (1, .int p1), (2, .int p2)] [] I R
  refine aw_aload_n dX7_breach_0 0 rfl rfl ?_
  obtain ⟨r1, er1, hF⟩ := qbind hF
  have kr1 : qok R r1 4 := hW.get ha0 er1 rfl
  refine aw_getr fl_X7_25 (by decide) fg_X7_2 ha0 er1 rfl dX7_breach_1 ?_
  refine aw_iload_n dX7_breach_4 1 rfl rfl ?_
  obtain ⟨y2, ey2, hF⟩ := qbind hF
  refine aw_callVi (As := [.int p1]) (sX4_hasColumn hW kr1 ey2) cl_X7_115 rfl (qroomL (by decide) (by decide)) rfl kr1 (Nat.le_of_ble_eq_true rfl) dX7_breach_5 rfl ?_
  refine aw_if_eq (tgt := 27) dX7_breach_8 (by decide) (fun c3 => ?_) (fun c3 => ?_)
  · rw [if_pos c3] at hF
    refine aw_iconst (v := (-1 : Int32)) dX7_breach_27 (by decide) ?_
    cases hF
    exact aw_iret rfl dX7_breach_28 rfl rfl rfl
  · rw [if_neg c3] at hF
    refine aw_aload_n dX7_breach_11 0 rfl rfl ?_
    refine aw_getr fl_X7_25 (by decide) fg_X7_2 ha0 er1 rfl dX7_breach_12 ?_
    refine aw_iload_n dX7_breach_15 2 rfl rfl ?_
    obtain ⟨y4, ey4, hF⟩ := qbind hF
    refine aw_callVi (As := [.int p2]) (sX4_hasColumn hW kr1 ey4) cl_X7_115 rfl (qroomL (by decide) (by decide)) rfl kr1 (Nat.le_of_ble_eq_true rfl) dX7_breach_16 rfl ?_
    refine aw_if_eq (tgt := 27) dX7_breach_19 (by decide) (fun c5 => ?_) (fun c5 => ?_)
    · rw [if_pos c5] at hF
      refine aw_iconst (v := (-1 : Int32)) dX7_breach_27 (by decide) ?_
      cases hF
      exact aw_iret rfl dX7_breach_28 rfl rfl rfl
    · rw [if_neg c5] at hF
      refine aw_iload_n dX7_breach_22 1 rfl rfl ?_
      refine aw_iload_n dX7_breach_23 2 rfl rfl ?_
      refine aw_icmp_lt (tgt := 29) dX7_breach_24 (by decide) (fun c6 => ?_) (fun c6 => ?_)
      · rw [if_pos c6] at hF
        refine aw_aload_n dX7_breach_29 0 rfl rfl ?_
        refine aw_getr fl_X7_25 (by decide) fg_X7_2 ha0 er1 rfl dX7_breach_30 ?_
        refine aw_iload_n dX7_breach_33 1 rfl rfl ?_
        refine aw_iload_n dX7_breach_34 2 rfl rfl ?_
        obtain ⟨y7, ey7, hF⟩ := qbind hF
        refine aw_callVi (As := [.int p1, .int p2]) (sX4_isBreach hW kr1 ey7) cl_X7_133 rfl (qroomL (by decide) (by decide)) rfl kr1 (Nat.le_of_ble_eq_true rfl) dX7_breach_35 rfl ?_
        refine aw_if_eq (tgt := 45) dX7_breach_38 (by decide) (fun c8 => ?_) (fun c8 => ?_)
        · rw [if_pos c8] at hF
          refine aw_iconst (v := (0 : Int32)) dX7_breach_45 (by decide) ?_
          cases hF
          exact aw_iret rfl dX7_breach_46 rfl rfl rfl
        · rw [if_neg c8] at hF
          refine aw_iconst (v := (1 : Int32)) dX7_breach_41 (by decide) ?_
          refine aw_goto (tgt := 46) dX7_breach_42 (by decide) ?_
          cases hF
          exact aw_iret rfl dX7_breach_46 rfl rfl rfl
      · rw [if_neg c6] at hF
        refine aw_iconst (v := (-1 : Int32)) dX7_breach_27 (by decide) ?_
        cases hF
        exact aw_iret rfl dX7_breach_28 rfl rfl rfl
def fX7_lanes (R : qR) (I : qI) (a0 : Nat) : Option (Int32) :=
  (R.1 a0 2).bind fun r1 =>
  (fX4_isMade R I r1).bind fun y2 =>
  if y2 = 0 then
    (some (-1 : Int32))
  else
    ((fX4_laneCount R I r1).bind fun y4 =>
    some y4)
set_option maxHeartbeats 4000000 in
set_option maxRecDepth 100000 in
theorem sX7_lanes {l : Launch} {G : qG} {R : qR} {I : qI} {a0 : Nat} {rv : Int32} (hW : qWT R) (ha0 : qok R a0 7) (hF : fX7_lanes R I a0 = some rv) : qMt l G mX7_lanes 2 [.ref (G.1 + a0)] I R (some (.int rv)) I R := by
  unfold fX7_lanes at hF
  refine qMt_of (by decide) (Nat.le_of_ble_eq_true rfl) ⟨Nat.le_refl _, Nat.le_refl _⟩ ?_
  show AW _ 0 [(0, .ref (G.1 + a0))] [] I R
  refine aw_aload_n dX7_lanes_0 0 rfl rfl ?_
  obtain ⟨r1, er1, hF⟩ := qbind hF
  have kr1 : qok R r1 4 := hW.get ha0 er1 rfl
  refine aw_getr fl_X7_25 (by decide) fg_X7_2 ha0 er1 rfl dX7_lanes_1 ?_
  obtain ⟨y2, ey2, hF⟩ := qbind hF
  refine aw_callVi (As := []) (sX4_isMade hW kr1 ey2) cl_X7_123 rfl (qroomL (by decide) (by decide)) rfl kr1 (Nat.le_of_ble_eq_true rfl) dX7_lanes_4 rfl ?_
  refine aw_if_eq (tgt := 20) dX7_lanes_7 (by decide) (fun c3 => ?_) (fun c3 => ?_)
  · rw [if_pos c3] at hF
    refine aw_iconst (v := (-1 : Int32)) dX7_lanes_20 (by decide) ?_
    cases hF
    exact aw_iret rfl dX7_lanes_21 rfl rfl rfl
  · rw [if_neg c3] at hF
    refine aw_aload_n dX7_lanes_10 0 rfl rfl ?_
    refine aw_getr fl_X7_25 (by decide) fg_X7_2 ha0 er1 rfl dX7_lanes_11 ?_
    obtain ⟨y4, ey4, hF⟩ := qbind hF
    refine aw_callVi (As := []) (sX4_laneCount hW kr1 ey4) cl_X7_137 rfl (qroomL (by decide) (by decide)) rfl kr1 (Nat.le_of_ble_eq_true rfl) dX7_lanes_14 rfl ?_
    refine aw_goto (tgt := 21) dX7_lanes_17 (by decide) ?_
    cases hF
    exact aw_iret rfl dX7_lanes_21 rfl rfl rfl
def fX7_lane (R : qR) (I : qI) (a0 : Nat) (p1 : Int32) : Option (Int32) :=
  (R.1 a0 2).bind fun r1 =>
  (fX4_hasColumn R I r1 p1).bind fun y2 =>
  if y2 = 0 then
    (some (-1 : Int32))
  else
    ((fX4_laneOf R I r1 p1).bind fun y4 =>
    some y4)
set_option maxHeartbeats 4000000 in
set_option maxRecDepth 100000 in
theorem sX7_lane {l : Launch} {G : qG} {R : qR} {I : qI} {a0 : Nat} {p1 : Int32} {rv : Int32} (hW : qWT R) (ha0 : qok R a0 7) (hF : fX7_lane R I a0 p1 = some rv) : qMt l G mX7_lane 2 [.ref (G.1 + a0), .int p1] I R (some (.int rv)) I R := by
  unfold fX7_lane at hF
  refine qMt_of (by decide) (Nat.le_of_ble_eq_true rfl) ⟨Nat.le_refl _, Nat.le_refl _⟩ ?_
  show AW _ 0 [(0, .ref (G.1 + a0)), (1, .int p1)] [] I R
  refine aw_aload_n dX7_lane_0 0 rfl rfl ?_
  obtain ⟨r1, er1, hF⟩ := qbind hF
  have kr1 : qok R r1 4 := hW.get ha0 er1 rfl
  refine aw_getr fl_X7_25 (by decide) fg_X7_2 ha0 er1 rfl dX7_lane_1 ?_
  refine aw_iload_n dX7_lane_4 1 rfl rfl ?_
  obtain ⟨y2, ey2, hF⟩ := qbind hF
  refine aw_callVi (As := [.int p1]) (sX4_hasColumn hW kr1 ey2) cl_X7_115 rfl (qroomL (by decide) (by decide)) rfl kr1 (Nat.le_of_ble_eq_true rfl) dX7_lane_5 rfl ?_
  refine aw_if_eq (tgt := 22) dX7_lane_8 (by decide) (fun c3 => ?_) (fun c3 => ?_)
  · rw [if_pos c3] at hF
    refine aw_iconst (v := (-1 : Int32)) dX7_lane_22 (by decide) ?_
    cases hF
    exact aw_iret rfl dX7_lane_23 rfl rfl rfl
  · rw [if_neg c3] at hF
    refine aw_aload_n dX7_lane_11 0 rfl rfl ?_
    refine aw_getr fl_X7_25 (by decide) fg_X7_2 ha0 er1 rfl dX7_lane_12 ?_
    refine aw_iload_n dX7_lane_15 1 rfl rfl ?_
    obtain ⟨y4, ey4, hF⟩ := qbind hF
    refine aw_callVi (As := [.int p1]) (sX4_laneOf hW kr1 ey4) cl_X7_140 rfl (qroomL (by decide) (by decide)) rfl kr1 (Nat.le_of_ble_eq_true rfl) dX7_lane_16 rfl ?_
    refine aw_goto (tgt := 23) dX7_lane_19 (by decide) ?_
    cases hF
    exact aw_iret rfl dX7_lane_23 rfl rfl rfl
def fX7_canTravel (R : qR) (I : qI) (p0 : Int32) (p1 : Int32) (p2 : Int32) : Option (Int32) :=
  (fX7_isStation R I p0).bind fun y1 =>
  if y1 = 0 then
    (some (0 : Int32))
  else
    ((fX7_isStation R I p1).bind fun y3 =>
    if y3 = 0 then
      (some (0 : Int32))
    else
      (if p0 = p1 then
        (some (0 : Int32))
      else
        (if p2 < 0 then
          (some (0 : Int32))
        else
          (if (7 : Int32) ≤ p2 then
            (some (0 : Int32))
          else
            (some (1 : Int32))))))
set_option maxHeartbeats 4000000 in
set_option maxRecDepth 100000 in
theorem sX7_canTravel {l : Launch} {G : qG} {R : qR} {I : qI} {p0 : Int32} {p1 : Int32} {p2 : Int32} {rv : Int32} (hW : qWT R)  (hF : fX7_canTravel R I p0 p1 p2 = some rv) : qMt l G mX7_canTravel 2 [.int p0, .int p1, .int p2] I R (some (.int rv)) I R := by
  unfold fX7_canTravel at hF
  refine qMt_of (by decide) (Nat.le_of_ble_eq_true rfl) ⟨Nat.le_refl _, Nat.le_refl _⟩ ?_
  show AW _ 0 [(0, .int p0), (1, .int p1), (2, .int p2)] [] I R
  refine aw_iload_n dX7_canTravel_0 0 rfl rfl ?_
  obtain ⟨y1, ey1, hF⟩ := qbind hF
  refine aw_callSi (sX7_isStation hW  ey1) cl_X7_55 rfl (qroomL (by decide) (by decide)) rfl (Nat.le_of_ble_eq_true rfl) dX7_canTravel_1 rfl ?_
  refine aw_if_eq (tgt := 33) dX7_canTravel_4 (by decide) (fun c2 => ?_) (fun c2 => ?_)
  · rw [if_pos c2] at hF
    refine aw_iconst (v := (0 : Int32)) dX7_canTravel_33 (by decide) ?_
    cases hF
    exact aw_zret rfl (by decide) dX7_canTravel_34 rfl rfl rfl
  · rw [if_neg c2] at hF
    refine aw_iload_n dX7_canTravel_7 1 rfl rfl ?_
    obtain ⟨y3, ey3, hF⟩ := qbind hF
    refine aw_callSi (sX7_isStation hW  ey3) cl_X7_55 rfl (qroomL (by decide) (by decide)) rfl (Nat.le_of_ble_eq_true rfl) dX7_canTravel_8 rfl ?_
    refine aw_if_eq (tgt := 33) dX7_canTravel_11 (by decide) (fun c4 => ?_) (fun c4 => ?_)
    · rw [if_pos c4] at hF
      refine aw_iconst (v := (0 : Int32)) dX7_canTravel_33 (by decide) ?_
      cases hF
      exact aw_zret rfl (by decide) dX7_canTravel_34 rfl rfl rfl
    · rw [if_neg c4] at hF
      refine aw_iload_n dX7_canTravel_14 0 rfl rfl ?_
      refine aw_iload_n dX7_canTravel_15 1 rfl rfl ?_
      refine aw_icmp_eq (tgt := 33) dX7_canTravel_16 (by decide) (fun c5 => ?_) (fun c5 => ?_)
      · rw [if_pos c5] at hF
        refine aw_iconst (v := (0 : Int32)) dX7_canTravel_33 (by decide) ?_
        cases hF
        exact aw_zret rfl (by decide) dX7_canTravel_34 rfl rfl rfl
      · rw [if_neg c5] at hF
        refine aw_iload_n dX7_canTravel_19 2 rfl rfl ?_
        refine aw_if_lt (tgt := 33) dX7_canTravel_20 (by decide) (fun c6 => ?_) (fun c6 => ?_)
        · rw [if_pos c6] at hF
          refine aw_iconst (v := (0 : Int32)) dX7_canTravel_33 (by decide) ?_
          cases hF
          exact aw_zret rfl (by decide) dX7_canTravel_34 rfl rfl rfl
        · rw [if_neg c6] at hF
          refine aw_iload_n dX7_canTravel_23 2 rfl rfl ?_
          refine aw_bipush (v := (7 : Int32)) dX7_canTravel_24 (by decide) ?_
          refine aw_icmp_ge (tgt := 33) dX7_canTravel_26 (by decide) (fun c7 => ?_) (fun c7 => ?_)
          · rw [if_pos c7] at hF
            refine aw_iconst (v := (0 : Int32)) dX7_canTravel_33 (by decide) ?_
            cases hF
            exact aw_zret rfl (by decide) dX7_canTravel_34 rfl rfl rfl
          · rw [if_neg c7] at hF
            refine aw_iconst (v := (1 : Int32)) dX7_canTravel_29 (by decide) ?_
            refine aw_goto (tgt := 34) dX7_canTravel_30 (by decide) ?_
            cases hF
            exact aw_zret rfl (by decide) dX7_canTravel_34 rfl rfl rfl
def fX8_isTrain (R : qR) (I : qI) (a0 : Nat) (p1 : Int32) : Option (Int32) :=
  if p1 < 0 then
    (some (0 : Int32))
  else
    (if (I a0 1) ≤ p1 then
      (some (0 : Int32))
    else
      (some (1 : Int32)))
set_option maxHeartbeats 4000000 in
set_option maxRecDepth 100000 in
theorem sX8_isTrain {l : Launch} {G : qG} {R : qR} {I : qI} {a0 : Nat} {p1 : Int32} {rv : Int32} (hW : qWT R) (ha0 : qok R a0 8) (hF : fX8_isTrain R I a0 p1 = some rv) : qMt l G mX8_isTrain 1 [.ref (G.1 + a0), .int p1] I R (some (.int rv)) I R := by
  unfold fX8_isTrain at hF
  refine qMt_of (by decide) (Nat.le_of_ble_eq_true rfl) ⟨Nat.le_refl _, Nat.le_refl _⟩ ?_
  show AW _ 0 [(0, .ref (G.1 + a0)), (1, .int p1)] [] I R
  refine aw_iload_n dX8_isTrain_0 1 rfl rfl ?_
  refine aw_if_lt (tgt := 16) dX8_isTrain_1 (by decide) (fun c1 => ?_) (fun c1 => ?_)
  · rw [if_pos c1] at hF
    refine aw_iconst (v := (0 : Int32)) dX8_isTrain_16 (by decide) ?_
    cases hF
    exact aw_zret rfl (by decide) dX8_isTrain_17 rfl rfl rfl
  · rw [if_neg c1] at hF
    refine aw_iload_n dX8_isTrain_4 1 rfl rfl ?_
    refine aw_aload_n dX8_isTrain_5 0 rfl rfl ?_
    refine aw_geti fl_X8_97 (by decide) fg_X8_1 ha0 rfl dX8_isTrain_6 ?_
    refine aw_icmp_ge (tgt := 16) dX8_isTrain_9 (by decide) (fun c2 => ?_) (fun c2 => ?_)
    · rw [if_pos c2] at hF
      refine aw_iconst (v := (0 : Int32)) dX8_isTrain_16 (by decide) ?_
      cases hF
      exact aw_zret rfl (by decide) dX8_isTrain_17 rfl rfl rfl
    · rw [if_neg c2] at hF
      refine aw_iconst (v := (1 : Int32)) dX8_isTrain_12 (by decide) ?_
      refine aw_goto (tgt := 17) dX8_isTrain_13 (by decide) ?_
      cases hF
      exact aw_zret rfl (by decide) dX8_isTrain_17 rfl rfl rfl
def fX8_isStation (R : qR) (I : qI) (a0 : Nat) (p1 : Int32) : Option (Int32) :=
  if p1 < 0 then
    (some (0 : Int32))
  else
    (if (12 : Int32) ≤ p1 then
      (some (0 : Int32))
    else
      (some (1 : Int32)))
set_option maxHeartbeats 4000000 in
set_option maxRecDepth 100000 in
theorem sX8_isStation {l : Launch} {G : qG} {R : qR} {I : qI} {a0 : Nat} {p1 : Int32} {rv : Int32} (hW : qWT R) (ha0 : qok R a0 8) (hF : fX8_isStation R I a0 p1 = some rv) : qMt l G mX8_isStation 1 [.ref (G.1 + a0), .int p1] I R (some (.int rv)) I R := by
  unfold fX8_isStation at hF
  refine qMt_of (by decide) (Nat.le_of_ble_eq_true rfl) ⟨Nat.le_refl _, Nat.le_refl _⟩ ?_
  show AW _ 0 [(0, .ref (G.1 + a0)), (1, .int p1)] [] I R
  refine aw_iload_n dX8_isStation_0 1 rfl rfl ?_
  refine aw_if_lt (tgt := 14) dX8_isStation_1 (by decide) (fun c1 => ?_) (fun c1 => ?_)
  · rw [if_pos c1] at hF
    refine aw_iconst (v := (0 : Int32)) dX8_isStation_14 (by decide) ?_
    cases hF
    exact aw_zret rfl (by decide) dX8_isStation_15 rfl rfl rfl
  · rw [if_neg c1] at hF
    refine aw_iload_n dX8_isStation_4 1 rfl rfl ?_
    refine aw_bipush (v := (12 : Int32)) dX8_isStation_5 (by decide) ?_
    refine aw_icmp_ge (tgt := 14) dX8_isStation_7 (by decide) (fun c2 => ?_) (fun c2 => ?_)
    · rw [if_pos c2] at hF
      refine aw_iconst (v := (0 : Int32)) dX8_isStation_14 (by decide) ?_
      cases hF
      exact aw_zret rfl (by decide) dX8_isStation_15 rfl rfl rfl
    · rw [if_neg c2] at hF
      refine aw_iconst (v := (1 : Int32)) dX8_isStation_10 (by decide) ?_
      refine aw_goto (tgt := 15) dX8_isStation_11 (by decide) ?_
      cases hF
      exact aw_zret rfl (by decide) dX8_isStation_15 rfl rfl rfl
