def fX7_days (R : qR) (I : qI) (a0 : Nat) (p1 : Int32) (p2 : Int32) : Option (Int32 × qI) :=
  (fX7_trainOf R I a0 p1).bind fun y1 =>
  qopt y1
    (some ((0 : Int32), I))
    (fun q2 =>
    (fX7_areDays R I p2).bind fun y3 =>
    if y3 = 0 then
      (some ((0 : Int32), I))
    else
      (qlet (qup I q2 0 p2) fun I5 =>
      some ((1 : Int32), I5)))
set_option maxHeartbeats 4000000 in
set_option maxRecDepth 100000 in
theorem sX7_days {l : Launch} {G : qG} {R : qR} {I : qI} {a0 : Nat} {p1 : Int32} {p2 : Int32} {rv : Int32} {rI : qI} (hW : qWT R) (ha0 : qok R a0 7) (hF : fX7_days R I a0 p1 p2 = some (rv, rI)) : qMt l G mX7_days 2 [.ref (G.1 + a0), .int p1, .int p2] I R (some (.int rv)) rI R := by
  unfold fX7_days at hF
  refine qMt_of (by decide) (Nat.le_of_ble_eq_true rfl) ⟨Nat.le_refl _, Nat.le_refl _⟩ ?_
  show AW _ 0 [(0, .ref (G.1 + a0)), (1, .int p1), (2, .int p2)] [] I R
  refine aw_aload_n dX7_days_0 0 rfl rfl ?_
  refine aw_iload_n dX7_days_1 1 rfl rfl ?_
  obtain ⟨y1, ey1, hF⟩ := qbind hF
  cases y1 with
  | none =>
    replace hF := qoptn hF
    refine aw_callVr (As := [.int p1]) (sX7_trainOf hW ha0 ey1) cl_X7_51 rfl (qroomL (by decide) (by decide)) rfl ha0 (Nat.le_of_ble_eq_true rfl) dX7_days_2 rfl ?_
    refine aw_astore_nN (lv' := [(3, .null), (0, .ref (G.1 + a0)), (1, .int p1), (2, .int p2)]) dX7_days_5 rfl (Nat.le_of_ble_eq_true rfl) rfl ?_
    refine aw_aload_nN dX7_days_6 0 rfl rfl ?_
    refine aw_ifnullN (tgt := 17) dX7_days_7 (by decide) ?_
    refine aw_iconst (v := (0 : Int32)) dX7_days_17 (by decide) ?_
    cases hF
    exact aw_zret rfl (by decide) dX7_days_18 rfl rfl rfl
  | some q2 =>
    replace hF := qopts hF
    have kq2 : qok R q2 5 := kX7_trainOf hW ha0 ey1
    refine aw_callVr (As := [.int p1]) (sX7_trainOf hW ha0 ey1) cl_X7_51 rfl (qroomL (by decide) (by decide)) rfl ha0 (Nat.le_of_ble_eq_true rfl) dX7_days_2 rfl ?_
    refine aw_astore_n (lv' := [(3, .ref (G.1 + q2)), (0, .ref (G.1 + a0)), (1, .int p1), (2, .int p2)]) dX7_days_5 rfl (Nat.le_of_ble_eq_true rfl) rfl ?_
    refine aw_aload_n dX7_days_6 0 rfl rfl ?_
    refine aw_ifnull dX7_days_7 ?_
    refine aw_iload_n dX7_days_10 3 rfl rfl ?_
    obtain ⟨y3, ey3, hF⟩ := qbind hF
    refine aw_callSi (sX7_areDays hW  ey3) cl_X7_41 rfl (qroomL (by decide) (by decide)) rfl (Nat.le_of_ble_eq_true rfl) dX7_days_11 rfl ?_
    refine aw_if_ne (tgt := 19) dX7_days_14 (by decide) (fun c4 => ?_) (fun c4 => ?_)
    · rw [if_neg c4] at hF
      refine aw_aload_n dX7_days_19 0 rfl rfl ?_
      refine aw_iload_n dX7_days_20 3 rfl rfl ?_
      obtain ⟨I5, eI5, hF⟩ := qletE hF
      refine aw_putiq fl_X7_48 (by decide) fs_X5_0 fn_X5_0 ft_X5_0 kq2 eI5 rfl dX7_days_21 ?_
      refine aw_iconst (v := (1 : Int32)) dX7_days_24 (by decide) ?_
      cases hF
      exact aw_zret rfl (by decide) dX7_days_25 rfl rfl rfl
    · rw [if_pos c4] at hF
      refine aw_iconst (v := (0 : Int32)) dX7_days_17 (by decide) ?_
      cases hF
      exact aw_zret rfl (by decide) dX7_days_18 rfl rfl rfl
def fX7_cut (R : qR) (I : qI) (a0 : Nat) (p1 : Int32) : Option (Int32 × qI) :=
  (fX7_trainOf R I a0 p1).bind fun y1 =>
  qopt y1
    (some ((0 : Int32), I))
    (fun q2 =>
    if (I q2 1) = 0 then
      (some ((0 : Int32), I))
    else
      ((fX5_dropLast R I q2).bind fun y4 =>
      some ((1 : Int32), y4)))
set_option maxHeartbeats 4000000 in
set_option maxRecDepth 100000 in
theorem sX7_cut {l : Launch} {G : qG} {R : qR} {I : qI} {a0 : Nat} {p1 : Int32} {rv : Int32} {rI : qI} (hW : qWT R) (ha0 : qok R a0 7) (hF : fX7_cut R I a0 p1 = some (rv, rI)) : qMt l G mX7_cut 2 [.ref (G.1 + a0), .int p1] I R (some (.int rv)) rI R := by
  unfold fX7_cut at hF
  refine qMt_of (by decide) (Nat.le_of_ble_eq_true rfl) ⟨Nat.le_refl _, Nat.le_refl _⟩ ?_
  show AW _ 0 [(0, .ref (G.1 + a0)), (1, .int p1)] [] I R
  refine aw_aload_n dX7_cut_0 0 rfl rfl ?_
  refine aw_iload_n dX7_cut_1 1 rfl rfl ?_
  obtain ⟨y1, ey1, hF⟩ := qbind hF
  cases y1 with
  | none =>
    replace hF := qoptn hF
    refine aw_callVr (As := [.int p1]) (sX7_trainOf hW ha0 ey1) cl_X7_51 rfl (qroomL (by decide) (by decide)) rfl ha0 (Nat.le_of_ble_eq_true rfl) dX7_cut_2 rfl ?_
    refine aw_astore_nN (lv' := [(2, .null), (0, .ref (G.1 + a0)), (1, .int p1)]) dX7_cut_5 rfl (Nat.le_of_ble_eq_true rfl) rfl ?_
    refine aw_aload_nN dX7_cut_6 0 rfl rfl ?_
    refine aw_ifnullN (tgt := 17) dX7_cut_7 (by decide) ?_
    refine aw_iconst (v := (0 : Int32)) dX7_cut_17 (by decide) ?_
    cases hF
    exact aw_zret rfl (by decide) dX7_cut_18 rfl rfl rfl
  | some q2 =>
    replace hF := qopts hF
    have kq2 : qok R q2 5 := kX7_trainOf hW ha0 ey1
    refine aw_callVr (As := [.int p1]) (sX7_trainOf hW ha0 ey1) cl_X7_51 rfl (qroomL (by decide) (by decide)) rfl ha0 (Nat.le_of_ble_eq_true rfl) dX7_cut_2 rfl ?_
    refine aw_astore_n (lv' := [(2, .ref (G.1 + q2)), (0, .ref (G.1 + a0)), (1, .int p1)]) dX7_cut_5 rfl (Nat.le_of_ble_eq_true rfl) rfl ?_
    refine aw_aload_n dX7_cut_6 0 rfl rfl ?_
    refine aw_ifnull dX7_cut_7 ?_
    refine aw_aload_n dX7_cut_10 0 rfl rfl ?_
    refine aw_geti fl_X7_66 (by decide) fg_X5_1 kq2 rfl dX7_cut_11 ?_
    refine aw_if_ne (tgt := 19) dX7_cut_14 (by decide) (fun c3 => ?_) (fun c3 => ?_)
    · rw [if_neg c3] at hF
      refine aw_aload_n dX7_cut_19 0 rfl rfl ?_
      obtain ⟨y4, ey4, hF⟩ := qbind hF
      refine aw_callVv (As := []) (sX5_dropLast hW kq2 ey4) cl_X7_69 rfl (qroomL (by decide) (by decide)) rfl kq2 (Nat.le_of_ble_eq_true rfl) dX7_cut_20 rfl ?_
      refine aw_iconst (v := (1 : Int32)) dX7_cut_23 (by decide) ?_
      cases hF
      exact aw_zret rfl (by decide) dX7_cut_24 rfl rfl rfl
    · rw [if_pos c3] at hF
      refine aw_iconst (v := (0 : Int32)) dX7_cut_17 (by decide) ?_
      cases hF
      exact aw_zret rfl (by decide) dX7_cut_18 rfl rfl rfl
def fX7_shift (N : Nat) (R : qR) (I : qI) (a0 : Nat) (p1 : Int32) (p2 : Int32) : Option (Int32 × qI) :=
  (fX7_trainOf R I a0 p1).bind fun y1 =>
  qopt y1
    (some ((0 : Int32), I))
    (fun q2 =>
    (fX5_staysInDay R I q2 p2).bind fun y3 =>
    if y3 = 0 then
      (some ((0 : Int32), I))
    else
      ((fX5_move N R I q2 p2).bind fun y5 =>
      some ((1 : Int32), y5)))
set_option maxHeartbeats 4000000 in
set_option maxRecDepth 100000 in
theorem sX7_shift {l : Launch} {G : qG} {N : Nat} {R : qR} {I : qI} {a0 : Nat} {p1 : Int32} {p2 : Int32} {rv : Int32} {rI : qI} (hW : qWT R) (ha0 : qok R a0 7) (hF : fX7_shift N R I a0 p1 p2 = some (rv, rI)) : qMt l G mX7_shift 2 [.ref (G.1 + a0), .int p1, .int p2] I R (some (.int rv)) rI R := by
  unfold fX7_shift at hF
  refine qMt_of (by decide) (Nat.le_of_ble_eq_true rfl) ⟨Nat.le_refl _, Nat.le_refl _⟩ ?_
  show AW _ 0 [(0, .ref (G.1 + a0)), (1, .int p1), (2, .int p2)] [] I R
  refine aw_aload_n dX7_shift_0 0 rfl rfl ?_
  refine aw_iload_n dX7_shift_1 1 rfl rfl ?_
  obtain ⟨y1, ey1, hF⟩ := qbind hF
  cases y1 with
  | none =>
    replace hF := qoptn hF
    refine aw_callVr (As := [.int p1]) (sX7_trainOf hW ha0 ey1) cl_X7_51 rfl (qroomL (by decide) (by decide)) rfl ha0 (Nat.le_of_ble_eq_true rfl) dX7_shift_2 rfl ?_
    refine aw_astore_nN (lv' := [(3, .null), (0, .ref (G.1 + a0)), (1, .int p1), (2, .int p2)]) dX7_shift_5 rfl (Nat.le_of_ble_eq_true rfl) rfl ?_
    refine aw_aload_nN dX7_shift_6 0 rfl rfl ?_
    refine aw_ifnullN (tgt := 18) dX7_shift_7 (by decide) ?_
    refine aw_iconst (v := (0 : Int32)) dX7_shift_18 (by decide) ?_
    cases hF
    exact aw_zret rfl (by decide) dX7_shift_19 rfl rfl rfl
  | some q2 =>
    replace hF := qopts hF
    have kq2 : qok R q2 5 := kX7_trainOf hW ha0 ey1
    refine aw_callVr (As := [.int p1]) (sX7_trainOf hW ha0 ey1) cl_X7_51 rfl (qroomL (by decide) (by decide)) rfl ha0 (Nat.le_of_ble_eq_true rfl) dX7_shift_2 rfl ?_
    refine aw_astore_n (lv' := [(3, .ref (G.1 + q2)), (0, .ref (G.1 + a0)), (1, .int p1), (2, .int p2)]) dX7_shift_5 rfl (Nat.le_of_ble_eq_true rfl) rfl ?_
    refine aw_aload_n dX7_shift_6 0 rfl rfl ?_
    refine aw_ifnull dX7_shift_7 ?_
    refine aw_aload_n dX7_shift_10 0 rfl rfl ?_
    refine aw_iload_n dX7_shift_11 3 rfl rfl ?_
    obtain ⟨y3, ey3, hF⟩ := qbind hF
    refine aw_callVi (As := [.int p2]) (sX5_staysInDay hW kq2 ey3) cl_X7_72 rfl (qroomL (by decide) (by decide)) rfl kq2 (Nat.le_of_ble_eq_true rfl) dX7_shift_12 rfl ?_
    refine aw_if_ne (tgt := 20) dX7_shift_15 (by decide) (fun c4 => ?_) (fun c4 => ?_)
    · rw [if_neg c4] at hF
      refine aw_aload_n dX7_shift_20 0 rfl rfl ?_
      refine aw_iload_n dX7_shift_21 3 rfl rfl ?_
      obtain ⟨y5, ey5, hF⟩ := qbind hF
      refine aw_callVv (As := [.int p2]) (sX5_move hW kq2 ey5) cl_X7_75 rfl (qroomL (by decide) (by decide)) rfl kq2 (Nat.le_of_ble_eq_true rfl) dX7_shift_22 rfl ?_
      refine aw_iconst (v := (1 : Int32)) dX7_shift_25 (by decide) ?_
      cases hF
      exact aw_zret rfl (by decide) dX7_shift_26 rfl rfl rfl
    · rw [if_pos c4] at hF
      refine aw_iconst (v := (0 : Int32)) dX7_shift_18 (by decide) ?_
      cases hF
      exact aw_zret rfl (by decide) dX7_shift_19 rfl rfl rfl
def fX7_sign (R : qR) (I : qI) (a0 : Nat) (p1 : Int32) (p2 : Int32) : Option (Int32 × qI) :=
  if p1 < (7 : Int32) then
    (some ((0 : Int32), I))
  else
    (if (13 : Int32) ≤ p1 then
      (some ((0 : Int32), I))
    else
      (if p2 < 0 then
        (some ((0 : Int32), I))
      else
        (if p2 ≤ (127 : Int32) then
          ((R.1 a0 1).bind fun r5 =>
          (fX3_tell R I r5 (p1 - (7 : Int32)) p2).bind fun y6 =>
          some ((1 : Int32), y6))
        else
          (some ((0 : Int32), I)))))
set_option maxHeartbeats 4000000 in
set_option maxRecDepth 100000 in
theorem sX7_sign {l : Launch} {G : qG} {R : qR} {I : qI} {a0 : Nat} {p1 : Int32} {p2 : Int32} {rv : Int32} {rI : qI} (hW : qWT R) (ha0 : qok R a0 7) (hF : fX7_sign R I a0 p1 p2 = some (rv, rI)) : qMt l G mX7_sign 2 [.ref (G.1 + a0), .int p1, .int p2] I R (some (.int rv)) rI R := by
  unfold fX7_sign at hF
  refine qMt_of (by decide) (Nat.le_of_ble_eq_true rfl) ⟨Nat.le_refl _, Nat.le_refl _⟩ ?_
  show AW _ 0 [(0, .ref (G.1 + a0)), (1, .int p1), (2, .int p2)] [] I R
  refine aw_iload_n dX7_sign_0 1 rfl rfl ?_
  refine aw_bipush (v := (7 : Int32)) dX7_sign_1 (by decide) ?_
  refine aw_icmp_lt (tgt := 22) dX7_sign_3 (by decide) (fun c1 => ?_) (fun c1 => ?_)
  · rw [if_pos c1] at hF
    refine aw_iconst (v := (0 : Int32)) dX7_sign_22 (by decide) ?_
    cases hF
    exact aw_zret rfl (by decide) dX7_sign_23 rfl rfl rfl
  · rw [if_neg c1] at hF
    refine aw_iload_n dX7_sign_6 1 rfl rfl ?_
    refine aw_bipush (v := (13 : Int32)) dX7_sign_7 (by decide) ?_
    refine aw_icmp_ge (tgt := 22) dX7_sign_9 (by decide) (fun c2 => ?_) (fun c2 => ?_)
    · rw [if_pos c2] at hF
      refine aw_iconst (v := (0 : Int32)) dX7_sign_22 (by decide) ?_
      cases hF
      exact aw_zret rfl (by decide) dX7_sign_23 rfl rfl rfl
    · rw [if_neg c2] at hF
      refine aw_iload_n dX7_sign_12 2 rfl rfl ?_
      refine aw_if_lt (tgt := 22) dX7_sign_13 (by decide) (fun c3 => ?_) (fun c3 => ?_)
      · rw [if_pos c3] at hF
        refine aw_iconst (v := (0 : Int32)) dX7_sign_22 (by decide) ?_
        cases hF
        exact aw_zret rfl (by decide) dX7_sign_23 rfl rfl rfl
      · rw [if_neg c3] at hF
        refine aw_iload_n dX7_sign_16 2 rfl rfl ?_
        refine aw_bipush (v := (127 : Int32)) dX7_sign_17 (by decide) ?_
        refine aw_icmp_le (tgt := 24) dX7_sign_19 (by decide) (fun c4 => ?_) (fun c4 => ?_)
        · rw [if_pos c4] at hF
          refine aw_aload_n dX7_sign_24 0 rfl rfl ?_
          obtain ⟨r5, er5, hF⟩ := qbind hF
          have kr5 : qok R r5 3 := hW.get ha0 er5 rfl
          refine aw_getr fl_X7_18 (by decide) fg_X7_1 ha0 er5 rfl dX7_sign_25 ?_
          refine aw_iload_n dX7_sign_28 1 rfl rfl ?_
          refine aw_bipush (v := (7 : Int32)) dX7_sign_29 (by decide) ?_
          refine aw_isub dX7_sign_31 ?_
          refine aw_iload_n dX7_sign_32 2 rfl rfl ?_
          obtain ⟨y6, ey6, hF⟩ := qbind hF
          refine aw_callVv (As := [.int (p1 - (7 : Int32)), .int p2]) (sX3_tell hW kr5 ey6) cl_X7_79 rfl (qroomL (by decide) (by decide)) rfl kr5 (Nat.le_of_ble_eq_true rfl) dX7_sign_33 rfl ?_
          refine aw_iconst (v := (1 : Int32)) dX7_sign_36 (by decide) ?_
          cases hF
          exact aw_zret rfl (by decide) dX7_sign_37 rfl rfl rfl
        · rw [if_neg c4] at hF
          refine aw_iconst (v := (0 : Int32)) dX7_sign_22 (by decide) ?_
          cases hF
          exact aw_zret rfl (by decide) dX7_sign_23 rfl rfl rfl
def fX7_change (R : qR) (I : qI) (a0 : Nat) (p1 : Int32) : Option (Int32 × qI) :=
  if p1 < 0 then
    (some ((0 : Int32), I))
  else
    (if p1 ≤ (60 : Int32) then
      (qlet (qup I a0 5 p1) fun I3 =>
      some ((1 : Int32), I3))
    else
      (some ((0 : Int32), I)))
set_option maxHeartbeats 4000000 in
set_option maxRecDepth 100000 in
theorem sX7_change {l : Launch} {G : qG} {R : qR} {I : qI} {a0 : Nat} {p1 : Int32} {rv : Int32} {rI : qI} (hW : qWT R) (ha0 : qok R a0 7) (hF : fX7_change R I a0 p1 = some (rv, rI)) : qMt l G mX7_change 1 [.ref (G.1 + a0), .int p1] I R (some (.int rv)) rI R := by
  unfold fX7_change at hF
  refine qMt_of (by decide) (Nat.le_of_ble_eq_true rfl) ⟨Nat.le_refl _, Nat.le_refl _⟩ ?_
  show AW _ 0 [(0, .ref (G.1 + a0)), (1, .int p1)] [] I R
  refine aw_iload_n dX7_change_0 1 rfl rfl ?_
  refine aw_if_lt (tgt := 10) dX7_change_1 (by decide) (fun c1 => ?_) (fun c1 => ?_)
  · rw [if_pos c1] at hF
    refine aw_iconst (v := (0 : Int32)) dX7_change_10 (by decide) ?_
    cases hF
    exact aw_zret rfl (by decide) dX7_change_11 rfl rfl rfl
  · rw [if_neg c1] at hF
    refine aw_iload_n dX7_change_4 1 rfl rfl ?_
    refine aw_bipush (v := (60 : Int32)) dX7_change_5 (by decide) ?_
    refine aw_icmp_le (tgt := 12) dX7_change_7 (by decide) (fun c2 => ?_) (fun c2 => ?_)
    · rw [if_pos c2] at hF
      refine aw_aload_n dX7_change_12 0 rfl rfl ?_
      refine aw_iload_n dX7_change_13 1 rfl rfl ?_
      obtain ⟨I3, eI3, hF⟩ := qletE hF
      refine aw_putiq fl_X7_36 (by decide) fs_X7_5 fn_X7_5 ft_X7_5 ha0 eI3 rfl dX7_change_14 ?_
      refine aw_iconst (v := (1 : Int32)) dX7_change_17 (by decide) ?_
      cases hF
      exact aw_zret rfl (by decide) dX7_change_18 rfl rfl rfl
    · rw [if_neg c2] at hF
      refine aw_iconst (v := (0 : Int32)) dX7_change_10 (by decide) ?_
      cases hF
      exact aw_zret rfl (by decide) dX7_change_11 rfl rfl rfl
def fX7_aboutBook (R : qR) (I : qI) (a0 : Nat) (p1 : Int32) : Option (Int32) :=
  if p1 = (0 : Int32) then
    (some (I a0 4))
  else
  if p1 = (1 : Int32) then
    (some (I a0 5))
  else
  if p1 = (2 : Int32) then
    ((R.1 a0 2).bind fun r4 =>
    (fX4_rowCount R I r4).bind fun y5 =>
    some y5)
  else
  if p1 = (3 : Int32) then
    ((R.1 a0 2).bind fun r7 =>
    (fX4_columnCount R I r7).bind fun y8 =>
    some y8)
  else
  some (-1 : Int32)
set_option maxHeartbeats 4000000 in
set_option maxRecDepth 100000 in
theorem sX7_aboutBook {l : Launch} {G : qG} {R : qR} {I : qI} {a0 : Nat} {p1 : Int32} {rv : Int32} (hW : qWT R) (ha0 : qok R a0 7) (hF : fX7_aboutBook R I a0 p1 = some rv) : qMt l G mX7_aboutBook 2 [.ref (G.1 + a0), .int p1] I R (some (.int rv)) I R := by
  unfold fX7_aboutBook at hF
  refine qMt_of (by decide) (Nat.le_of_ble_eq_true rfl) ⟨Nat.le_refl _, Nat.le_refl _⟩ ?_
  show AW _ 0 [(0, .ref (G.1 + a0)), (1, .int p1)] [] I R
  refine aw_iload_n dX7_aboutBook_0 1 rfl rfl ?_
  by_cases c1 : p1 = (0 : Int32)
  · rw [if_pos c1] at hF
    refine aw_tableEq (tgt := 32) dX7_aboutBook_1 c1 (by decide) (by decide) rfl (by decide) ?_
    refine aw_aload_n dX7_aboutBook_32 0 rfl rfl ?_
    refine aw_geti fl_X7_45 (by decide) fg_X7_4 ha0 rfl dX7_aboutBook_33 ?_
    cases hF
    exact aw_iret rfl dX7_aboutBook_36 rfl rfl rfl
  · rw [if_neg c1] at hF
    by_cases c2 : p1 = (1 : Int32)
    · rw [if_pos c2] at hF
      refine aw_tableEq (tgt := 37) dX7_aboutBook_1 c2 (by decide) (by decide) rfl (by decide) ?_
      refine aw_aload_n dX7_aboutBook_37 0 rfl rfl ?_
      refine aw_geti fl_X7_36 (by decide) fg_X7_5 ha0 rfl dX7_aboutBook_38 ?_
      cases hF
      exact aw_iret rfl dX7_aboutBook_41 rfl rfl rfl
    · rw [if_neg c2] at hF
      by_cases c3 : p1 = (2 : Int32)
      · rw [if_pos c3] at hF
        refine aw_tableEq (tgt := 42) dX7_aboutBook_1 c3 (by decide) (by decide) rfl (by decide) ?_
        refine aw_aload_n dX7_aboutBook_42 0 rfl rfl ?_
        obtain ⟨r4, er4, hF⟩ := qbind hF
        have kr4 : qok R r4 4 := hW.get ha0 er4 rfl
        refine aw_getr fl_X7_25 (by decide) fg_X7_2 ha0 er4 rfl dX7_aboutBook_43 ?_
        obtain ⟨y5, ey5, hF⟩ := qbind hF
        refine aw_callVi (As := []) (sX4_rowCount hW kr4 ey5) cl_X7_105 rfl (qroomL (by decide) (by decide)) rfl kr4 (Nat.le_of_ble_eq_true rfl) dX7_aboutBook_46 rfl ?_
        cases hF
        exact aw_iret rfl dX7_aboutBook_49 rfl rfl rfl
      · rw [if_neg c3] at hF
        by_cases c6 : p1 = (3 : Int32)
        · rw [if_pos c6] at hF
          refine aw_tableEq (tgt := 50) dX7_aboutBook_1 c6 (by decide) (by decide) rfl (by decide) ?_
          refine aw_aload_n dX7_aboutBook_50 0 rfl rfl ?_
          obtain ⟨r7, er7, hF⟩ := qbind hF
          have kr7 : qok R r7 4 := hW.get ha0 er7 rfl
          refine aw_getr fl_X7_25 (by decide) fg_X7_2 ha0 er7 rfl dX7_aboutBook_51 ?_
          obtain ⟨y8, ey8, hF⟩ := qbind hF
          refine aw_callVi (As := []) (sX4_columnCount hW kr7 ey8) cl_X7_161 rfl (qroomL (by decide) (by decide)) rfl kr7 (Nat.le_of_ble_eq_true rfl) dX7_aboutBook_54 rfl ?_
          cases hF
          exact aw_iret rfl dX7_aboutBook_57 rfl rfl rfl
        · rw [if_neg c6] at hF
          refine aw_tableOut (tgt := 58) dX7_aboutBook_1 (qtout _ 3 (fun j hj => by
            match j, hj with
            | 0, _ => exact c1
            | 1, _ => exact c2
            | 2, _ => exact c3
            | 3, _ => exact c6
            | j + 4, h => exact absurd h (by omega))) (by decide) ?_
          refine aw_iconst (v := (-1 : Int32)) dX7_aboutBook_58 (by decide) ?_
          cases hF
          exact aw_iret rfl dX7_aboutBook_59 rfl rfl rfl
def fX7_about (R : qR) (I : qI) (a0 : Nat) (p1 : Int32) : Option (Int32) :=
  if (100 : Int32) ≤ p1 then
    ((fX7_trainOf R I a0 ((p1 / (100 : Int32)) - (1 : Int32))).bind fun y2 =>
    qopt y2
      (some (-1 : Int32))
      (fun q3 =>
      (fX5_read R I q3 (p1 - p1 / (100 : Int32) * (100 : Int32))).bind fun y4 =>
      some y4))
  else
    ((fX7_aboutBook R I a0 p1).bind fun y5 =>
    some y5)
set_option maxHeartbeats 4000000 in
set_option maxRecDepth 100000 in
theorem sX7_about {l : Launch} {G : qG} {R : qR} {I : qI} {a0 : Nat} {p1 : Int32} {rv : Int32} (hW : qWT R) (ha0 : qok R a0 7) (hF : fX7_about R I a0 p1 = some rv) : qMt l G mX7_about 3 [.ref (G.1 + a0), .int p1] I R (some (.int rv)) I R := by
  unfold fX7_about at hF
  refine qMt_of (by decide) (Nat.le_of_ble_eq_true rfl) ⟨Nat.le_refl _, Nat.le_refl _⟩ ?_
  show AW _ 0 [(0, .ref (G.1 + a0)), (1, .int p1)] [] I R
  refine aw_iload_n dX7_about_0 1 rfl rfl ?_
  refine aw_bipush (v := (100 : Int32)) dX7_about_1 (by decide) ?_
  refine aw_icmp_ge (tgt := 12) dX7_about_3 (by decide) (fun c1 => ?_) (fun c1 => ?_)
  · rw [if_pos c1] at hF
    refine aw_aload_n dX7_about_12 0 rfl rfl ?_
    refine aw_iload_n dX7_about_13 1 rfl rfl ?_
    refine aw_bipush (v := (100 : Int32)) dX7_about_14 (by decide) ?_
    refine aw_idiv dX7_about_16 (by decide) ?_
    refine aw_iconst (v := (1 : Int32)) dX7_about_17 (by decide) ?_
    refine aw_isub dX7_about_18 ?_
    obtain ⟨y2, ey2, hF⟩ := qbind hF
    cases y2 with
    | none =>
      replace hF := qoptn hF
      refine aw_callVr (As := [.int ((p1 / (100 : Int32)) - (1 : Int32))]) (sX7_trainOf hW ha0 ey2) cl_X7_51 rfl (qroomL (by decide) (by decide)) rfl ha0 (Nat.le_of_ble_eq_true rfl) dX7_about_19 rfl ?_
      refine aw_astore_nN (lv' := [(2, .null), (0, .ref (G.1 + a0)), (1, .int p1)]) dX7_about_22 rfl (Nat.le_of_ble_eq_true rfl) rfl ?_
      refine aw_aload_nN dX7_about_23 0 rfl rfl ?_
      refine aw_ifnonnullN dX7_about_24 ?_
      refine aw_iconst (v := (-1 : Int32)) dX7_about_27 (by decide) ?_
      refine aw_goto (tgt := 39) dX7_about_28 (by decide) ?_
      cases hF
      exact aw_iret rfl dX7_about_39 rfl rfl rfl
    | some q3 =>
      replace hF := qopts hF
      have kq3 : qok R q3 5 := kX7_trainOf hW ha0 ey2
      refine aw_callVr (As := [.int ((p1 / (100 : Int32)) - (1 : Int32))]) (sX7_trainOf hW ha0 ey2) cl_X7_51 rfl (qroomL (by decide) (by decide)) rfl ha0 (Nat.le_of_ble_eq_true rfl) dX7_about_19 rfl ?_
      refine aw_astore_n (lv' := [(2, .ref (G.1 + q3)), (0, .ref (G.1 + a0)), (1, .int p1)]) dX7_about_22 rfl (Nat.le_of_ble_eq_true rfl) rfl ?_
      refine aw_aload_n dX7_about_23 0 rfl rfl ?_
      refine aw_ifnonnull (tgt := 31) dX7_about_24 (by decide) ?_
      refine aw_aload_n dX7_about_31 0 rfl rfl ?_
      refine aw_iload_n dX7_about_32 2 rfl rfl ?_
      refine aw_bipush (v := (100 : Int32)) dX7_about_33 (by decide) ?_
      refine aw_irem dX7_about_35 (by decide) ?_
      obtain ⟨y4, ey4, hF⟩ := qbind hF
      refine aw_callVi (As := [.int (p1 - p1 / (100 : Int32) * (100 : Int32))]) (sX5_read hW kq3 ey4) cl_X7_87 rfl (qroomL (by decide) (by decide)) rfl kq3 (Nat.le_of_ble_eq_true rfl) dX7_about_36 rfl ?_
      cases hF
      exact aw_iret rfl dX7_about_39 rfl rfl rfl
  · rw [if_neg c1] at hF
    refine aw_aload_n dX7_about_6 0 rfl rfl ?_
    refine aw_iload_n dX7_about_7 1 rfl rfl ?_
    obtain ⟨y5, ey5, hF⟩ := qbind hF
    refine aw_callVi (As := [.int p1]) (sX7_aboutBook hW ha0 ey5) cl_X7_83 rfl (qroomL (by decide) (by decide)) rfl ha0 (Nat.le_of_ble_eq_true rfl) dX7_about_8 rfl ?_
    cases hF
    exact aw_iret rfl dX7_about_11 rfl rfl rfl
def fX7_signs (N : Nat) (R : qR) (I : qI) (a0 : Nat) (p1 : Int32) (p2 : Int32) : Option (Int32) :=
  (fX7_trainOf R I a0 p1).bind fun y1 =>
  qopt y1
    (some (-1 : Int32))
    (fun q2 =>
    if p2 < 0 then
      (some (-1 : Int32))
    else
      (if p2 ≤ (1 : Int32) then
        ((R.1 a0 1).bind fun r5 =>
        (fX3_fewestFor N R I r5 (I q2 0)).bind fun y6 =>
        if p2 = 0 then
          ((fJ6_bitCount_0f7a4 R I y6).bind fun y8 =>
          some y8)
        else
          (some y6))
      else
        (some (-1 : Int32))))
set_option maxHeartbeats 4000000 in
set_option maxRecDepth 100000 in
theorem sX7_signs {l : Launch} {G : qG} {N : Nat} {R : qR} {I : qI} {a0 : Nat} {p1 : Int32} {p2 : Int32} {rv : Int32} (hW : qWT R) (ha0 : qok R a0 7) (hF : fX7_signs N R I a0 p1 p2 = some rv) : qMt l G mX7_signs 4 [.ref (G.1 + a0), .int p1, .int p2] I R (some (.int rv)) I R := by
  unfold fX7_signs at hF
  refine qMt_of (by decide) (Nat.le_of_ble_eq_true rfl) ⟨Nat.le_refl _, Nat.le_refl _⟩ ?_
  show AW _ 0 [(0, .ref (G.1 + a0)), (1, .int p1), (2, .int p2)] [] I R
  refine aw_aload_n dX7_signs_0 0 rfl rfl ?_
  refine aw_iload_n dX7_signs_1 1 rfl rfl ?_
  obtain ⟨y1, ey1, hF⟩ := qbind hF
  cases y1 with
  | none =>
    replace hF := qoptn hF
    refine aw_callVr (As := [.int p1]) (sX7_trainOf hW ha0 ey1) cl_X7_51 rfl (qroomL (by decide) (by decide)) rfl ha0 (Nat.le_of_ble_eq_true rfl) dX7_signs_2 rfl ?_
    refine aw_astore_nN (lv' := [(3, .null), (0, .ref (G.1 + a0)), (1, .int p1), (2, .int p2)]) dX7_signs_5 rfl (Nat.le_of_ble_eq_true rfl) rfl ?_
    refine aw_aload_nN dX7_signs_6 0 rfl rfl ?_
    refine aw_ifnullN (tgt := 19) dX7_signs_7 (by decide) ?_
    refine aw_iconst (v := (-1 : Int32)) dX7_signs_19 (by decide) ?_
    cases hF
    exact aw_iret rfl dX7_signs_20 rfl rfl rfl
  | some q2 =>
    replace hF := qopts hF
    have kq2 : qok R q2 5 := kX7_trainOf hW ha0 ey1
    refine aw_callVr (As := [.int p1]) (sX7_trainOf hW ha0 ey1) cl_X7_51 rfl (qroomL (by decide) (by decide)) rfl ha0 (Nat.le_of_ble_eq_true rfl) dX7_signs_2 rfl ?_
    refine aw_astore_n (lv' := [(3, .ref (G.1 + q2)), (0, .ref (G.1 + a0)), (1, .int p1), (2, .int p2)]) dX7_signs_5 rfl (Nat.le_of_ble_eq_true rfl) rfl ?_
    refine aw_aload_n dX7_signs_6 0 rfl rfl ?_
    refine aw_ifnull dX7_signs_7 ?_
    refine aw_iload_n dX7_signs_10 3 rfl rfl ?_
    refine aw_if_lt (tgt := 19) dX7_signs_11 (by decide) (fun c3 => ?_) (fun c3 => ?_)
    · rw [if_pos c3] at hF
      refine aw_iconst (v := (-1 : Int32)) dX7_signs_19 (by decide) ?_
      cases hF
      exact aw_iret rfl dX7_signs_20 rfl rfl rfl
    · rw [if_neg c3] at hF
      refine aw_iload_n dX7_signs_14 3 rfl rfl ?_
      refine aw_iconst (v := (1 : Int32)) dX7_signs_15 (by decide) ?_
      refine aw_icmp_le (tgt := 21) dX7_signs_16 (by decide) (fun c4 => ?_) (fun c4 => ?_)
      · rw [if_pos c4] at hF
        refine aw_aload_n dX7_signs_21 1 rfl rfl ?_
        obtain ⟨r5, er5, hF⟩ := qbind hF
        have kr5 : qok R r5 3 := hW.get ha0 er5 rfl
        refine aw_getr fl_X7_18 (by decide) fg_X7_1 ha0 er5 rfl dX7_signs_22 ?_
        refine aw_aload_n dX7_signs_25 0 rfl rfl ?_
        refine aw_geti fl_X7_48 (by decide) fg_X5_0 kq2 rfl dX7_signs_26 ?_
        obtain ⟨y6, ey6, hF⟩ := qbind hF
        refine aw_callVi (As := [.int (I q2 0)]) (sX3_fewestFor hW kr5 ey6) cl_X7_90 rfl (qroomL (by decide) (by decide)) rfl kr5 (Nat.le_of_ble_eq_true rfl) dX7_signs_29 rfl ?_
        refine aw_istore (lv' := [(4, .int y6), (3, .ref (G.1 + q2)), (0, .ref (G.1 + a0)), (1, .int p1), (2, .int p2)]) dX7_signs_32 (Nat.le_of_ble_eq_true rfl) rfl ?_
        refine aw_iload_n dX7_signs_34 4 rfl rfl ?_
        refine aw_if_ne (tgt := 46) dX7_signs_35 (by decide) (fun c7 => ?_) (fun c7 => ?_)
        · rw [if_neg c7] at hF
          refine aw_iload dX7_signs_46 0 rfl ?_
          cases hF
          exact aw_iret rfl dX7_signs_48 rfl rfl rfl
        · rw [if_pos c7] at hF
          refine aw_iload dX7_signs_38 0 rfl ?_
          obtain ⟨y8, ey8, hF⟩ := qbind hF
          refine aw_callSi (sJ6_bitCount_0f7a4 hW  ey8) cl_X7_93 rfl (qroomL (by decide) (by decide)) rfl (Nat.le_of_ble_eq_true rfl) dX7_signs_40 rfl ?_
          refine aw_goto (tgt := 48) dX7_signs_43 (by decide) ?_
          cases hF
          exact aw_iret rfl dX7_signs_48 rfl rfl rfl
      · rw [if_neg c4] at hF
        refine aw_iconst (v := (-1 : Int32)) dX7_signs_19 (by decide) ?_
        cases hF
        exact aw_iret rfl dX7_signs_20 rfl rfl rfl
def cX7_canBeTable_27 (N : Nat) (R : qR) (I : qI) (b0 : Nat) (v1 : Int32) (v2 : Int32) : Option ((Int32) ⊕ ((Unit) ⊕ (Int32))) :=
  if (I b0 4) ≤ v2 then
    (some (.inr (.inl ())))
  else
    (if ((v1 >>> (v2 &&& 31)) &&& (1 : Int32)) = 0 then
      (some (.inl (v2 + 1)))
    else
      ((R.1 b0 0).bind fun r7 =>
      (qra R r7 v2).bind fun r8 =>
      if (2 : Int32) ≤ (I r8 1) then
        (some (.inl (v2 + 1)))
      else
        (some (.inr (.inr (0 : Int32))))))
set_option maxHeartbeats 4000000 in
set_option maxRecDepth 100000 in
theorem tX7_canBeTable_27 {l : Launch} {G : qG} {N : Nat} {R : qR} {I : qI} {As : List Value} {rv : Option Value} {b0 : Nat} {v1 : Int32} (hW : qWT R) (hb0 : qok R b0 7) {o : (Unit) ⊕ (Int32)} (hx : match o with | .inl _ => AW (Zm l G mX7_canBeTable 2 As R rv I R) 64 [] [] I R | .inr rrv => rv = some (.int rrv) ∧ True) : ∀ n s, qloop (fun s => cX7_canBeTable_27 N R I b0 v1 s) n s = some o → AW (Zm l G mX7_canBeTable 2 As R rv I R) 27 [(0, .ref (G.1 + b0)), (1, .int v1), (2, .int s)] [] I R := by
  apply qloop_ind
  intro s x hF hc he
  obtain ⟨v2, rfl⟩ : ∃ z, z = s := ⟨s, rfl⟩
  change cX7_canBeTable_27 N R I b0 v1 v2 = some x at hF
  unfold cX7_canBeTable_27 at hF
  show AW _ 27 [(0, .ref (G.1 + b0)), (1, .int v1), (2, .int v2)] [] I R
  refine aw_iload_n dX7_canBeTable_27 2 rfl rfl ?_
  refine aw_aload_n dX7_canBeTable_28 0 rfl rfl ?_
  refine aw_geti fl_X7_45 (by decide) fg_X7_4 hb0 rfl dX7_canBeTable_29 ?_
  refine aw_icmp_ge (tgt := 64) dX7_canBeTable_32 (by decide) (fun c5 => ?_) (fun c5 => ?_)
  · rw [if_pos c5] at hF
    cases hF
    have hE := he _ rfl
    subst hE
    exact aw_sub [] rfl hx
  · rw [if_neg c5] at hF
    refine aw_iload_n dX7_canBeTable_35 1 rfl rfl ?_
    refine aw_iload_n dX7_canBeTable_36 2 rfl rfl ?_
    refine aw_ishr dX7_canBeTable_37 ?_
    refine aw_iconst (v := (1 : Int32)) dX7_canBeTable_38 (by decide) ?_
    refine aw_iand dX7_canBeTable_39 ?_
    refine aw_if_eq (tgt := 58) dX7_canBeTable_40 (by decide) (fun c6 => ?_) (fun c6 => ?_)
    · rw [if_pos c6] at hF
      refine aw_iinc (q := 2) (v := (v2 + 1)) (lv' := [(2, .int (v2 + 1)), (0, .ref (G.1 + b0)), (1, .int v1)]) dX7_canBeTable_58 rfl rfl (Nat.le_of_ble_eq_true rfl) rfl ?_
      refine aw_goto (tgt := 27) dX7_canBeTable_61 (by decide) ?_
      cases hF
      exact aw_sub [1, 2, 0] rfl (hc (v2 + 1) rfl)
    · rw [if_neg c6] at hF
      refine aw_aload_n dX7_canBeTable_43 0 rfl rfl ?_
      obtain ⟨r7, er7, hF⟩ := qbind hF
      have kr7 : qok R r7 11 := hW.get hb0 er7 rfl
      refine aw_getr fl_X7_11 (by decide) fg_X7_0 hb0 er7 rfl dX7_canBeTable_44 ?_
      refine aw_iload_n dX7_canBeTable_47 2 rfl rfl ?_
      obtain ⟨r8, er8, hF⟩ := qbind hF
      have kr8 : qok R r8 5 := hW.elem kr7 er8
      refine aw_aaldq kr7 er8 dX7_canBeTable_48 ?_
      refine aw_geti fl_X7_66 (by decide) fg_X5_1 kr8 rfl dX7_canBeTable_49 ?_
      refine aw_iconst (v := (2 : Int32)) dX7_canBeTable_52 (by decide) ?_
      refine aw_icmp_ge (tgt := 58) dX7_canBeTable_53 (by decide) (fun c9 => ?_) (fun c9 => ?_)
      · rw [if_pos c9] at hF
        refine aw_iinc (q := 2) (v := (v2 + 1)) (lv' := [(2, .int (v2 + 1)), (0, .ref (G.1 + b0)), (1, .int v1)]) dX7_canBeTable_58 rfl rfl (Nat.le_of_ble_eq_true rfl) rfl ?_
        refine aw_goto (tgt := 27) dX7_canBeTable_61 (by decide) ?_
        cases hF
        exact aw_sub [1, 2, 0] rfl (hc (v2 + 1) rfl)
      · rw [if_neg c9] at hF
        refine aw_iconst (v := (0 : Int32)) dX7_canBeTable_56 (by decide) ?_
        cases hF
        have hE := he _ rfl
        subst hE
        exact aw_zret rfl (by decide) dX7_canBeTable_57 hx.1 rfl rfl
def fX7_canBeTable (N : Nat) (R : qR) (I : qI) (a0 : Nat) (p1 : Int32) : Option (Int32) :=
  if p1 ≤ 0 then
    (some (0 : Int32))
  else
    (if ((1 : Int32) <<< ((I a0 4) &&& 31)) ≤ p1 then
      (some (0 : Int32))
    else
      ((fJ6_bitCount_0f7a4 R I p1).bind fun y3 =>
      if y3 ≤ (6 : Int32) then
        ((qloop (fun s => cX7_canBeTable_27 N R I a0 p1 s) N (0 : Int32)).bind fun o10 =>
        qx o10 (fun e11 =>
          some (1 : Int32)) (fun q12 => some q12))
      else
        (some (0 : Int32))))
set_option maxHeartbeats 4000000 in
set_option maxRecDepth 100000 in
theorem sX7_canBeTable {l : Launch} {G : qG} {N : Nat} {R : qR} {I : qI} {a0 : Nat} {p1 : Int32} {rv : Int32} (hW : qWT R) (ha0 : qok R a0 7) (hF : fX7_canBeTable N R I a0 p1 = some rv) : qMt l G mX7_canBeTable 2 [.ref (G.1 + a0), .int p1] I R (some (.int rv)) I R := by
  unfold fX7_canBeTable at hF
  refine qMt_of (by decide) (Nat.le_of_ble_eq_true rfl) ⟨Nat.le_refl _, Nat.le_refl _⟩ ?_
  show AW _ 0 [(0, .ref (G.1 + a0)), (1, .int p1)] [] I R
  refine aw_iload_n dX7_canBeTable_0 1 rfl rfl ?_
  refine aw_if_le (tgt := 23) dX7_canBeTable_1 (by decide) (fun c1 => ?_) (fun c1 => ?_)
  · rw [if_pos c1] at hF
    refine aw_iconst (v := (0 : Int32)) dX7_canBeTable_23 (by decide) ?_
    cases hF
    exact aw_zret rfl (by decide) dX7_canBeTable_24 rfl rfl rfl
  · rw [if_neg c1] at hF
    refine aw_iload_n dX7_canBeTable_4 1 rfl rfl ?_
    refine aw_iconst (v := (1 : Int32)) dX7_canBeTable_5 (by decide) ?_
    refine aw_aload_n dX7_canBeTable_6 0 rfl rfl ?_
    refine aw_geti fl_X7_45 (by decide) fg_X7_4 ha0 rfl dX7_canBeTable_7 ?_
    refine aw_ishl dX7_canBeTable_10 ?_
    refine aw_icmp_ge (tgt := 23) dX7_canBeTable_11 (by decide) (fun c2 => ?_) (fun c2 => ?_)
    · rw [if_pos c2] at hF
      refine aw_iconst (v := (0 : Int32)) dX7_canBeTable_23 (by decide) ?_
      cases hF
      exact aw_zret rfl (by decide) dX7_canBeTable_24 rfl rfl rfl
    · rw [if_neg c2] at hF
      refine aw_iload_n dX7_canBeTable_14 1 rfl rfl ?_
      obtain ⟨y3, ey3, hF⟩ := qbind hF
      refine aw_callSi (sJ6_bitCount_0f7a4 hW  ey3) cl_X7_93 rfl (qroomL (by decide) (by decide)) rfl (Nat.le_of_ble_eq_true rfl) dX7_canBeTable_15 rfl ?_
      refine aw_bipush (v := (6 : Int32)) dX7_canBeTable_18 (by decide) ?_
      refine aw_icmp_le (tgt := 25) dX7_canBeTable_20 (by decide) (fun c4 => ?_) (fun c4 => ?_)
      · rw [if_pos c4] at hF
        refine aw_iconst (v := (0 : Int32)) dX7_canBeTable_25 (by decide) ?_
        refine aw_istore_n (lv' := [(2, .int (0 : Int32)), (0, .ref (G.1 + a0)), (1, .int p1)]) dX7_canBeTable_26 rfl (Nat.le_of_ble_eq_true rfl) rfl ?_
        obtain ⟨o10, eo10, hF⟩ := qbind hF
        refine aw_sub [1, 2, 0] rfl (tX7_canBeTable_27 hW ha0 (o := o10) ?_ N (0 : Int32) eo10)
        cases o10 with
        | inl e11 =>
          replace hF := qxl hF
          show AW _ 64 [] [] I R
          refine aw_iconst (v := (1 : Int32)) dX7_canBeTable_64 (by decide) ?_
          cases hF
          exact aw_zret rfl (by decide) dX7_canBeTable_65 rfl rfl rfl
        | inr q12 =>
          replace hF := qxr hF
          cases hF
          exact ⟨rfl, trivial⟩
      · rw [if_neg c4] at hF
        refine aw_iconst (v := (0 : Int32)) dX7_canBeTable_23 (by decide) ?_
        cases hF
        exact aw_zret rfl (by decide) dX7_canBeTable_24 rfl rfl rfl
