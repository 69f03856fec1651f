def fX8_canDepart (R : qR) (I : qI) (a0 : Nat) (p1 : Int32) (p2 : Int32) (p3 : Int32) : Option (Int32) :=
  (fX8_isStation R I a0 p1).bind fun y1 =>
  if y1 = 0 then
    (some (0 : Int32))
  else
    ((fX8_isStation R I a0 p2).bind fun y3 =>
    if y3 = 0 then
      (some (0 : Int32))
    else
      (if p1 = p2 then
        (some (0 : Int32))
      else
        (if p3 < 0 then
          (some (0 : Int32))
        else
          (if (6 : Int32) < p3 then
            (some (0 : Int32))
          else
            (some (1 : Int32))))))
set_option maxHeartbeats 4000000 in
set_option maxRecDepth 100000 in
theorem sX8_canDepart {l : Launch} {G : qG} {R : qR} {I : qI} {a0 : Nat} {p1 : Int32} {p2 : Int32} {p3 : Int32} {rv : Int32} (hW : qWT R) (ha0 : qok R a0 8) (hF : fX8_canDepart R I a0 p1 p2 p3 = some rv) : qMt l G mX8_canDepart 2 [.ref (G.1 + a0), .int p1, .int p2, .int p3] I R (some (.int rv)) I R := by
  unfold fX8_canDepart at hF
  refine qMt_of (by decide) (Nat.le_of_ble_eq_true rfl) ⟨Nat.le_refl _, Nat.le_refl _⟩ ?_
  show AW _ 0 [(0, .ref (G.1 + a0)), (1, .int p1), (2, .int p2), (3, .int p3)] [] I R
  refine aw_aload_n dX8_canDepart_0 0 rfl rfl ?_
  refine aw_iload_n dX8_canDepart_1 1 rfl rfl ?_
  obtain ⟨y1, ey1, hF⟩ := qbind hF
  refine aw_callVi (As := [.int p1]) (sX8_isStation hW ha0 ey1) cl_X8_107 rfl (qroomL (by decide) (by decide)) rfl ha0 (Nat.le_of_ble_eq_true rfl) dX8_canDepart_2 rfl ?_
  refine aw_if_eq (tgt := 35) dX8_canDepart_5 (by decide) (fun c2 => ?_) (fun c2 => ?_)
  · rw [if_pos c2] at hF
    refine aw_iconst (v := (0 : Int32)) dX8_canDepart_35 (by decide) ?_
    cases hF
    exact aw_zret rfl (by decide) dX8_canDepart_36 rfl rfl rfl
  · rw [if_neg c2] at hF
    refine aw_aload_n dX8_canDepart_8 0 rfl rfl ?_
    refine aw_iload_n dX8_canDepart_9 2 rfl rfl ?_
    obtain ⟨y3, ey3, hF⟩ := qbind hF
    refine aw_callVi (As := [.int p2]) (sX8_isStation hW ha0 ey3) cl_X8_107 rfl (qroomL (by decide) (by decide)) rfl ha0 (Nat.le_of_ble_eq_true rfl) dX8_canDepart_10 rfl ?_
    refine aw_if_eq (tgt := 35) dX8_canDepart_13 (by decide) (fun c4 => ?_) (fun c4 => ?_)
    · rw [if_pos c4] at hF
      refine aw_iconst (v := (0 : Int32)) dX8_canDepart_35 (by decide) ?_
      cases hF
      exact aw_zret rfl (by decide) dX8_canDepart_36 rfl rfl rfl
    · rw [if_neg c4] at hF
      refine aw_iload_n dX8_canDepart_16 1 rfl rfl ?_
      refine aw_iload_n dX8_canDepart_17 2 rfl rfl ?_
      refine aw_icmp_eq (tgt := 35) dX8_canDepart_18 (by decide) (fun c5 => ?_) (fun c5 => ?_)
      · rw [if_pos c5] at hF
        refine aw_iconst (v := (0 : Int32)) dX8_canDepart_35 (by decide) ?_
        cases hF
        exact aw_zret rfl (by decide) dX8_canDepart_36 rfl rfl rfl
      · rw [if_neg c5] at hF
        refine aw_iload_n dX8_canDepart_21 3 rfl rfl ?_
        refine aw_if_lt (tgt := 35) dX8_canDepart_22 (by decide) (fun c6 => ?_) (fun c6 => ?_)
        · rw [if_pos c6] at hF
          refine aw_iconst (v := (0 : Int32)) dX8_canDepart_35 (by decide) ?_
          cases hF
          exact aw_zret rfl (by decide) dX8_canDepart_36 rfl rfl rfl
        · rw [if_neg c6] at hF
          refine aw_iload_n dX8_canDepart_25 3 rfl rfl ?_
          refine aw_bipush (v := (6 : Int32)) dX8_canDepart_26 (by decide) ?_
          refine aw_icmp_gt (tgt := 35) dX8_canDepart_28 (by decide) (fun c7 => ?_) (fun c7 => ?_)
          · rw [if_pos c7] at hF
            refine aw_iconst (v := (0 : Int32)) dX8_canDepart_35 (by decide) ?_
            cases hF
            exact aw_zret rfl (by decide) dX8_canDepart_36 rfl rfl rfl
          · rw [if_neg c7] at hF
            refine aw_iconst (v := (1 : Int32)) dX8_canDepart_31 (by decide) ?_
            refine aw_goto (tgt := 36) dX8_canDepart_32 (by decide) ?_
            cases hF
            exact aw_zret rfl (by decide) dX8_canDepart_36 rfl rfl rfl
def fX8_departures (N : Nat) (R : qR) (I : qI) (a0 : Nat) (p1 : Int32) (p2 : Int32) (p3 : Int32) : Option (Int32 × qI) :=
  qlet (qup I a0 0 (0 : Int32)) fun I1 =>
  (fX8_canDepart R I1 a0 p1 p2 p3).bind fun y2 =>
  if y2 = 0 then
    (some ((-1 : Int32), I1))
  else
    ((fX8_findDepartures N R I1 a0 p1 p2 p3).bind fun y4 =>
    some ((y4 a0 33), y4))
set_option maxHeartbeats 4000000 in
set_option maxRecDepth 100000 in
theorem sX8_departures {l : Launch} {G : qG} {N : Nat} {R : qR} {I : qI} {a0 : Nat} {p1 : Int32} {p2 : Int32} {p3 : Int32} {rv : Int32} {rI : qI} (hW : qWT R) (ha0 : qok R a0 8) (hF : fX8_departures N R I a0 p1 p2 p3 = some (rv, rI)) : qMt l G mX8_departures 5 [.ref (G.1 + a0), .int p1, .int p2, .int p3] I R (some (.int rv)) rI R := by
  unfold fX8_departures at hF
  refine qMt_of (by decide) (Nat.le_of_ble_eq_true rfl) ⟨Nat.le_refl _, Nat.le_refl _⟩ ?_
  show AW _ 0 [(0, .ref (G.1 + a0)), (1, .int p1), (2, .int p2), (3, .int p3)] [] I R
  refine aw_aload_n dX8_departures_0 0 rfl rfl ?_
  refine aw_iconst (v := (0 : Int32)) dX8_departures_1 (by decide) ?_
  obtain ⟨I1, eI1, hF⟩ := qletE hF
  refine aw_putiq fl_X8_94 (by decide) fs_X8_0 fn_X8_0 ft_X8_0 ha0 eI1 rfl dX8_departures_2 ?_
  refine aw_aload_n dX8_departures_5 0 rfl rfl ?_
  refine aw_iload_n dX8_departures_6 1 rfl rfl ?_
  refine aw_iload_n dX8_departures_7 2 rfl rfl ?_
  refine aw_iload_n dX8_departures_8 3 rfl rfl ?_
  obtain ⟨y2, ey2, hF⟩ := qbind hF
  refine aw_callVi (As := [.int p1, .int p2, .int p3]) (sX8_canDepart hW ha0 ey2) cl_X8_234 rfl (qroomL (by decide) (by decide)) rfl ha0 (Nat.le_of_ble_eq_true rfl) dX8_departures_9 rfl ?_
  refine aw_if_ne (tgt := 17) dX8_departures_12 (by decide) (fun c3 => ?_) (fun c3 => ?_)
  · rw [if_neg c3] at hF
    refine aw_aload_n dX8_departures_17 0 rfl rfl ?_
    refine aw_iload_n dX8_departures_18 1 rfl rfl ?_
    refine aw_iload_n dX8_departures_19 2 rfl rfl ?_
    refine aw_iload_n dX8_departures_20 3 rfl rfl ?_
    obtain ⟨y4, ey4, hF⟩ := qbind hF
    refine aw_callVv (As := [.int p1, .int p2, .int p3]) (sX8_findDepartures hW ha0 ey4) cl_X8_237 rfl (qroomL (by decide) (by decide)) rfl ha0 (Nat.le_of_ble_eq_true rfl) dX8_departures_21 rfl ?_
    refine aw_aload_n dX8_departures_24 0 rfl rfl ?_
    refine aw_geti fl_X8_228 (by decide) fg_X8_33 ha0 rfl dX8_departures_25 ?_
    cases hF
    exact aw_iret rfl dX8_departures_28 rfl rfl rfl
  · rw [if_pos c3] at hF
    refine aw_iconst (v := (-1 : Int32)) dX8_departures_15 (by decide) ?_
    cases hF
    exact aw_iret rfl dX8_departures_16 rfl rfl rfl
def fX8_departure (N : Nat) (R : qR) (I : qI) (a0 : Nat) (p1 : Int32) (p2 : Int32) (p3 : Int32) (p4 : Int32) : Option (Int32 × qI) :=
  qlet (qup I a0 0 (0 : Int32)) fun I1 =>
  (fX8_canDepart R I1 a0 p1 p2 p3).bind fun y2 =>
  if y2 = 0 then
    (some ((-1 : Int32), I1))
  else
    ((fX8_findDepartures N R I1 a0 p1 p2 p3).bind fun y4 =>
    if p4 < 0 then
      (some ((-1 : Int32), y4))
    else
      (if (y4 a0 33) ≤ p4 then
        (some ((-1 : Int32), y4))
      else
        ((R.1 a0 34).bind fun r7 =>
        (qrd y4 R r7 p4).bind fun x8 =>
        some (x8, y4))))
set_option maxHeartbeats 4000000 in
set_option maxRecDepth 100000 in
theorem sX8_departure {l : Launch} {G : qG} {N : Nat} {R : qR} {I : qI} {a0 : Nat} {p1 : Int32} {p2 : Int32} {p3 : Int32} {p4 : Int32} {rv : Int32} {rI : qI} (hW : qWT R) (ha0 : qok R a0 8) (hF : fX8_departure N R I a0 p1 p2 p3 p4 = some (rv, rI)) : qMt l G mX8_departure 5 [.ref (G.1 + a0), .int p1, .int p2, .int p3, .int p4] I R (some (.int rv)) rI R := by
  unfold fX8_departure at hF
  refine qMt_of (by decide) (Nat.le_of_ble_eq_true rfl) ⟨Nat.le_refl _, Nat.le_refl _⟩ ?_
  show AW _ 0 [(0, .ref (G.1 + a0)), (1, .int p1), (2, .int p2), (3, .int p3), (4, .int p4)] [] I R
  refine aw_aload_n dX8_departure_0 0 rfl rfl ?_
  refine aw_iconst (v := (0 : Int32)) dX8_departure_1 (by decide) ?_
  obtain ⟨I1, eI1, hF⟩ := qletE hF
  refine aw_putiq fl_X8_94 (by decide) fs_X8_0 fn_X8_0 ft_X8_0 ha0 eI1 rfl dX8_departure_2 ?_
  refine aw_aload_n dX8_departure_5 0 rfl rfl ?_
  refine aw_iload_n dX8_departure_6 1 rfl rfl ?_
  refine aw_iload_n dX8_departure_7 2 rfl rfl ?_
  refine aw_iload_n dX8_departure_8 3 rfl rfl ?_
  obtain ⟨y2, ey2, hF⟩ := qbind hF
  refine aw_callVi (As := [.int p1, .int p2, .int p3]) (sX8_canDepart hW ha0 ey2) cl_X8_234 rfl (qroomL (by decide) (by decide)) rfl ha0 (Nat.le_of_ble_eq_true rfl) dX8_departure_9 rfl ?_
  refine aw_if_ne (tgt := 17) dX8_departure_12 (by decide) (fun c3 => ?_) (fun c3 => ?_)
  · rw [if_neg c3] at hF
    refine aw_aload_n dX8_departure_17 0 rfl rfl ?_
    refine aw_iload_n dX8_departure_18 1 rfl rfl ?_
    refine aw_iload_n dX8_departure_19 2 rfl rfl ?_
    refine aw_iload_n dX8_departure_20 3 rfl rfl ?_
    obtain ⟨y4, ey4, hF⟩ := qbind hF
    refine aw_callVv (As := [.int p1, .int p2, .int p3]) (sX8_findDepartures hW ha0 ey4) cl_X8_237 rfl (qroomL (by decide) (by decide)) rfl ha0 (Nat.le_of_ble_eq_true rfl) dX8_departure_21 rfl ?_
    refine aw_iload dX8_departure_24 4 rfl ?_
    refine aw_if_lt (tgt := 48) dX8_departure_26 (by decide) (fun c5 => ?_) (fun c5 => ?_)
    · rw [if_pos c5] at hF
      refine aw_iconst (v := (-1 : Int32)) dX8_departure_48 (by decide) ?_
      cases hF
      exact aw_iret rfl dX8_departure_49 rfl rfl rfl
    · rw [if_neg c5] at hF
      refine aw_iload dX8_departure_29 4 rfl ?_
      refine aw_aload_n dX8_departure_31 0 rfl rfl ?_
      refine aw_geti fl_X8_228 (by decide) fg_X8_33 ha0 rfl dX8_departure_32 ?_
      refine aw_icmp_ge (tgt := 48) dX8_departure_35 (by decide) (fun c6 => ?_) (fun c6 => ?_)
      · rw [if_pos c6] at hF
        refine aw_iconst (v := (-1 : Int32)) dX8_departure_48 (by decide) ?_
        cases hF
        exact aw_iret rfl dX8_departure_49 rfl rfl rfl
      · rw [if_neg c6] at hF
        refine aw_aload_n dX8_departure_38 0 rfl rfl ?_
        obtain ⟨r7, er7, hF⟩ := qbind hF
        have kr7 : qok R r7 9 := hW.get ha0 er7 rfl
        refine aw_getr fl_X8_91 (by decide) fg_X8_34 ha0 er7 rfl dX8_departure_39 ?_
        refine aw_iload dX8_departure_42 4 rfl ?_
        obtain ⟨x8, ex8, hF⟩ := qbind hF
        refine aw_ialdq kr7 ex8 dX8_departure_44 ?_
        refine aw_goto (tgt := 49) dX8_departure_45 (by decide) ?_
        cases hF
        exact aw_iret rfl dX8_departure_49 rfl rfl rfl
  · rw [if_pos c3] at hF
    refine aw_iconst (v := (-1 : Int32)) dX8_departure_15 (by decide) ?_
    cases hF
    exact aw_iret rfl dX8_departure_16 rfl rfl rfl
