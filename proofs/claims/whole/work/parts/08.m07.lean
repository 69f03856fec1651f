def fX4_laneCount (R : qR) (I : qI) (a0 : Nat) : Option (Int32) :=
  (R.1 a0 5).bind fun r1 =>
  some (I r1 0)
set_option maxHeartbeats 4000000 in
set_option maxRecDepth 100000 in
theorem sX4_laneCount {l : Launch} {G : qG} {R : qR} {I : qI} {a0 : Nat} {rv : Int32} (hW : qWT R) (ha0 : qok R a0 4) (hF : fX4_laneCount R I a0 = some rv) : qMt l G mX4_laneCount 1 [.ref (G.1 + a0)] I R (some (.int rv)) I R := by
  unfold fX4_laneCount at hF
  refine qMt_of (by decide) (Nat.le_of_ble_eq_true rfl) ⟨Nat.le_refl _, Nat.le_refl _⟩ ?_
  show AW _ 0 [(0, .ref (G.1 + a0))] [] I R
  refine aw_aload_n dX4_laneCount_0 0 rfl rfl ?_
  obtain ⟨r1, er1, hF⟩ := qbind hF
  have kr1 : qok R r1 1 := hW.get ha0 er1 rfl
  refine aw_getr fl_X4_41 (by decide) fg_X4_5 ha0 er1 rfl dX4_laneCount_1 ?_
  refine aw_geti fl_X4_102 (by decide) fg_X1_0 kr1 rfl dX4_laneCount_4 ?_
  cases hF
  exact aw_iret rfl dX4_laneCount_7 rfl rfl rfl
def fX4_laneOf (R : qR) (I : qI) (a0 : Nat) (p1 : Int32) : Option (Int32) :=
  (R.1 a0 5).bind fun r1 =>
  (R.1 r1 1).bind fun r2 =>
  (R.1 a0 4).bind fun r3 =>
  (R.1 r3 0).bind fun r4 =>
  (qrd I R r4 p1).bind fun x5 =>
  (qrd I R r2 x5).bind fun x6 =>
  some x6
set_option maxHeartbeats 4000000 in
set_option maxRecDepth 100000 in
theorem sX4_laneOf {l : Launch} {G : qG} {R : qR} {I : qI} {a0 : Nat} {p1 : Int32} {rv : Int32} (hW : qWT R) (ha0 : qok R a0 4) (hF : fX4_laneOf R I a0 p1 = some rv) : qMt l G mX4_laneOf 1 [.ref (G.1 + a0), .int p1] I R (some (.int rv)) I R := by
  unfold fX4_laneOf at hF
  refine qMt_of (by decide) (Nat.le_of_ble_eq_true rfl) ⟨Nat.le_refl _, Nat.le_refl _⟩ ?_
  show AW _ 0 [(0, .ref (G.1 + a0)), (1, .int p1)] [] I R
  refine aw_aload_n dX4_laneOf_0 0 rfl rfl ?_
  obtain ⟨r1, er1, hF⟩ := qbind hF
  have kr1 : qok R r1 1 := hW.get ha0 er1 rfl
  refine aw_getr fl_X4_41 (by decide) fg_X4_5 ha0 er1 rfl dX4_laneOf_1 ?_
  obtain ⟨r2, er2, hF⟩ := qbind hF
  have kr2 : qok R r2 9 := hW.get kr1 er2 rfl
  refine aw_getr fl_X4_105 (by decide) fg_X1_1 kr1 er2 rfl dX4_laneOf_4 ?_
  refine aw_aload_n dX4_laneOf_7 0 rfl rfl ?_
  obtain ⟨r3, er3, hF⟩ := qbind hF
  have kr3 : qok R r3 0 := hW.get ha0 er3 rfl
  refine aw_getr fl_X4_34 (by decide) fg_X4_4 ha0 er3 rfl dX4_laneOf_8 ?_
  obtain ⟨r4, er4, hF⟩ := qbind hF
  have kr4 : qok R r4 9 := hW.get kr3 er4 rfl
  refine aw_getr fl_X4_73 (by decide) fg_X0_0 kr3 er4 rfl dX4_laneOf_11 ?_
  refine aw_iload_n dX4_laneOf_14 1 rfl rfl ?_
  obtain ⟨x5, ex5, hF⟩ := qbind hF
  refine aw_ialdq kr4 ex5 dX4_laneOf_15 ?_
  obtain ⟨x6, ex6, hF⟩ := qbind hF
  refine aw_ialdq kr2 ex6 dX4_laneOf_16 ?_
  cases hF
  exact aw_iret rfl dX4_laneOf_17 rfl rfl rfl
def fX5_takes (R : qR) (I : qI) (a0 : Nat) (p1 : Int32) (p2 : Int32) (p3 : Int32) : Option (Int32) :=
  if (7 : Int32) ≤ (I a0 1) then
    (some (0 : Int32))
  else
    ((R.1 a0 5).bind fun r2 =>
    (qrd I R r2 p1).bind fun x3 =>
    if x3 = (-1 : Int32) then
      (if p2 < 0 then
        (some (0 : Int32))
      else
        (if p3 < p2 then
          (some (0 : Int32))
        else
          (if p3 < (1440 : Int32) then
            (if (I a0 1) = 0 then
              (some (1 : Int32))
            else
              ((R.1 a0 4).bind fun r9 =>
              (qrd I R r9 ((I a0 1) - (1 : Int32))).bind fun x10 =>
              if p2 ≤ x10 then
                (some (0 : Int32))
              else
                (some (1 : Int32))))
          else
            (some (0 : Int32)))))
    else
      (some (0 : Int32)))
set_option maxHeartbeats 4000000 in
set_option maxRecDepth 100000 in
theorem sX5_takes {l : Launch} {G : qG} {R : qR} {I : qI} {a0 : Nat} {p1 : Int32} {p2 : Int32} {p3 : Int32} {rv : Int32} (hW : qWT R) (ha0 : qok R a0 5) (hF : fX5_takes R I a0 p1 p2 p3 = some rv) : qMt l G mX5_takes 1 [.ref (G.1 + a0), .int p1, .int p2, .int p3] I R (some (.int rv)) I R := by
  unfold fX5_takes at hF
  refine qMt_of (by decide) (Nat.le_of_ble_eq_true rfl) ⟨Nat.le_refl _, Nat.le_refl _⟩ ?_
  show AW _ 0 [(0, .ref (G.1 + a0)), (1, .int p1), (2, .int p2), (3, .int p3)] [] I R
  refine aw_aload_n dX5_takes_0 0 rfl rfl ?_
  refine aw_geti fl_X5_30 (by decide) fg_X5_1 ha0 rfl dX5_takes_1 ?_
  refine aw_bipush (v := (7 : Int32)) dX5_takes_4 (by decide) ?_
  refine aw_icmp_ge (tgt := 19) dX5_takes_6 (by decide) (fun c1 => ?_) (fun c1 => ?_)
  · rw [if_pos c1] at hF
    refine aw_iconst (v := (0 : Int32)) dX5_takes_19 (by decide) ?_
    cases hF
    exact aw_zret rfl (by decide) dX5_takes_20 rfl rfl rfl
  · rw [if_neg c1] at hF
    refine aw_aload_n dX5_takes_9 0 rfl rfl ?_
    obtain ⟨r2, er2, hF⟩ := qbind hF
    have kr2 : qok R r2 9 := hW.get ha0 er2 rfl
    refine aw_getr fl_X5_21 (by decide) fg_X5_5 ha0 er2 rfl dX5_takes_10 ?_
    refine aw_iload_n dX5_takes_13 1 rfl rfl ?_
    obtain ⟨x3, ex3, hF⟩ := qbind hF
    refine aw_ialdq kr2 ex3 dX5_takes_14 ?_
    refine aw_iconst (v := (-1 : Int32)) dX5_takes_15 (by decide) ?_
    refine aw_icmp_eq (tgt := 21) dX5_takes_16 (by decide) (fun c4 => ?_) (fun c4 => ?_)
    · rw [if_pos c4] at hF
      refine aw_iload_n dX5_takes_21 2 rfl rfl ?_
      refine aw_if_lt (tgt := 37) dX5_takes_22 (by decide) (fun c5 => ?_) (fun c5 => ?_)
      · rw [if_pos c5] at hF
        refine aw_iconst (v := (0 : Int32)) dX5_takes_37 (by decide) ?_
        cases hF
        exact aw_zret rfl (by decide) dX5_takes_38 rfl rfl rfl
      · rw [if_neg c5] at hF
        refine aw_iload_n dX5_takes_25 3 rfl rfl ?_
        refine aw_iload_n dX5_takes_26 2 rfl rfl ?_
        refine aw_icmp_lt (tgt := 37) dX5_takes_27 (by decide) (fun c6 => ?_) (fun c6 => ?_)
        · rw [if_pos c6] at hF
          refine aw_iconst (v := (0 : Int32)) dX5_takes_37 (by decide) ?_
          cases hF
          exact aw_zret rfl (by decide) dX5_takes_38 rfl rfl rfl
        · rw [if_neg c6] at hF
          refine aw_iload_n dX5_takes_30 3 rfl rfl ?_
          refine aw_sipush (v := (1440 : Int32)) dX5_takes_31 (by decide) ?_
          refine aw_icmp_lt (tgt := 39) dX5_takes_34 (by decide) (fun c7 => ?_) (fun c7 => ?_)
          · rw [if_pos c7] at hF
            refine aw_aload_n dX5_takes_39 0 rfl rfl ?_
            refine aw_geti fl_X5_30 (by decide) fg_X5_1 ha0 rfl dX5_takes_40 ?_
            refine aw_if_eq (tgt := 61) dX5_takes_43 (by decide) (fun c8 => ?_) (fun c8 => ?_)
            · rw [if_pos c8] at hF
              refine aw_iconst (v := (1 : Int32)) dX5_takes_61 (by decide) ?_
              refine aw_goto (tgt := 66) dX5_takes_62 (by decide) ?_
              cases hF
              exact aw_zret rfl (by decide) dX5_takes_66 rfl rfl rfl
            · rw [if_neg c8] at hF
              refine aw_iload_n dX5_takes_46 2 rfl rfl ?_
              refine aw_aload_n dX5_takes_47 0 rfl rfl ?_
              obtain ⟨r9, er9, hF⟩ := qbind hF
              have kr9 : qok R r9 9 := hW.get ha0 er9 rfl
              refine aw_getr fl_X5_18 (by decide) fg_X5_4 ha0 er9 rfl dX5_takes_48 ?_
              refine aw_aload_n dX5_takes_51 0 rfl rfl ?_
              refine aw_geti fl_X5_30 (by decide) fg_X5_1 ha0 rfl dX5_takes_52 ?_
              refine aw_iconst (v := (1 : Int32)) dX5_takes_55 (by decide) ?_
              refine aw_isub dX5_takes_56 ?_
              obtain ⟨x10, ex10, hF⟩ := qbind hF
              refine aw_ialdq kr9 ex10 dX5_takes_57 ?_
              refine aw_icmp_le (tgt := 65) dX5_takes_58 (by decide) (fun c11 => ?_) (fun c11 => ?_)
              · rw [if_pos c11] at hF
                refine aw_iconst (v := (0 : Int32)) dX5_takes_65 (by decide) ?_
                cases hF
                exact aw_zret rfl (by decide) dX5_takes_66 rfl rfl rfl
              · rw [if_neg c11] at hF
                refine aw_iconst (v := (1 : Int32)) dX5_takes_61 (by decide) ?_
                refine aw_goto (tgt := 66) dX5_takes_62 (by decide) ?_
                cases hF
                exact aw_zret rfl (by decide) dX5_takes_66 rfl rfl rfl
          · rw [if_neg c7] at hF
            refine aw_iconst (v := (0 : Int32)) dX5_takes_37 (by decide) ?_
            cases hF
            exact aw_zret rfl (by decide) dX5_takes_38 rfl rfl rfl
    · rw [if_neg c4] at hF
      refine aw_iconst (v := (0 : Int32)) dX5_takes_19 (by decide) ?_
      cases hF
      exact aw_zret rfl (by decide) dX5_takes_20 rfl rfl rfl
def fX5_add (R : qR) (I : qI) (a0 : Nat) (p1 : Int32) (p2 : Int32) (p3 : Int32) : Option (qI) :=
  (R.1 a0 2).bind fun r1 =>
  (qwr I R r1 (I a0 1) p1).bind fun I2 =>
  (R.1 a0 3).bind fun r3 =>
  (qwr I2 R r3 (I2 a0 1) p2).bind fun I4 =>
  (R.1 a0 4).bind fun r5 =>
  (qwr I4 R r5 (I4 a0 1) p3).bind fun I6 =>
  (R.1 a0 5).bind fun r7 =>
  (qwr I6 R r7 p1 (I6 a0 1)).bind fun I8 =>
  qlet (qup I8 a0 1 ((I8 a0 1) + (1 : Int32))) fun I9 =>
  some I9
set_option maxHeartbeats 4000000 in
set_option maxRecDepth 100000 in
theorem sX5_add {l : Launch} {G : qG} {R : qR} {I : qI} {a0 : Nat} {p1 : Int32} {p2 : Int32} {p3 : Int32} {rI : qI} (hW : qWT R) (ha0 : qok R a0 5) (hF : fX5_add R I a0 p1 p2 p3 = some rI) : qMt l G mX5_add 1 [.ref (G.1 + a0), .int p1, .int p2, .int p3] I R (none) rI R := by
  unfold fX5_add at hF
  refine qMt_of (by decide) (Nat.le_of_ble_eq_true rfl) ⟨Nat.le_refl _, Nat.le_refl _⟩ ?_
  show AW _ 0 [(0, .ref (G.1 + a0)), (1, .int p1), (2, .int p2), (3, .int p3)] [] I R
  refine aw_aload_n dX5_add_0 0 rfl rfl ?_
  obtain ⟨r1, er1, hF⟩ := qbind hF
  have kr1 : qok R r1 9 := hW.get ha0 er1 rfl
  refine aw_getr fl_X5_9 (by decide) fg_X5_2 ha0 er1 rfl dX5_add_1 ?_
  refine aw_aload_n dX5_add_4 0 rfl rfl ?_
  refine aw_geti fl_X5_30 (by decide) fg_X5_1 ha0 rfl dX5_add_5 ?_
  refine aw_iload_n dX5_add_8 1 rfl rfl ?_
  obtain ⟨I2, eI2, hF⟩ := qbind hF
  refine aw_iastq kr1 eI2 dX5_add_9 ?_
  refine aw_aload_n dX5_add_10 0 rfl rfl ?_
  obtain ⟨r3, er3, hF⟩ := qbind hF
  have kr3 : qok R r3 9 := hW.get ha0 er3 rfl
  refine aw_getr fl_X5_15 (by decide) fg_X5_3 ha0 er3 rfl dX5_add_11 ?_
  refine aw_aload_n dX5_add_14 0 rfl rfl ?_
  refine aw_geti fl_X5_30 (by decide) fg_X5_1 ha0 rfl dX5_add_15 ?_
  refine aw_iload_n dX5_add_18 2 rfl rfl ?_
  obtain ⟨I4, eI4, hF⟩ := qbind hF
  refine aw_iastq kr3 eI4 dX5_add_19 ?_
  refine aw_aload_n dX5_add_20 0 rfl rfl ?_
  obtain ⟨r5, er5, hF⟩ := qbind hF
  have kr5 : qok R r5 9 := hW.get ha0 er5 rfl
  refine aw_getr fl_X5_18 (by decide) fg_X5_4 ha0 er5 rfl dX5_add_21 ?_
  refine aw_aload_n dX5_add_24 0 rfl rfl ?_
  refine aw_geti fl_X5_30 (by decide) fg_X5_1 ha0 rfl dX5_add_25 ?_
  refine aw_iload_n dX5_add_28 3 rfl rfl ?_
  obtain ⟨I6, eI6, hF⟩ := qbind hF
  refine aw_iastq kr5 eI6 dX5_add_29 ?_
  refine aw_aload_n dX5_add_30 0 rfl rfl ?_
  obtain ⟨r7, er7, hF⟩ := qbind hF
  have kr7 : qok R r7 9 := hW.get ha0 er7 rfl
  refine aw_getr fl_X5_21 (by decide) fg_X5_5 ha0 er7 rfl dX5_add_31 ?_
  refine aw_iload_n dX5_add_34 1 rfl rfl ?_
  refine aw_aload_n dX5_add_35 0 rfl rfl ?_
  refine aw_geti fl_X5_30 (by decide) fg_X5_1 ha0 rfl dX5_add_36 ?_
  obtain ⟨I8, eI8, hF⟩ := qbind hF
  refine aw_iastq kr7 eI8 dX5_add_39 ?_
  refine aw_aload_n dX5_add_40 0 rfl rfl ?_
  refine aw_dup dX5_add_41 rfl ?_
  refine aw_geti fl_X5_30 (by decide) fg_X5_1 ha0 rfl dX5_add_42 ?_
  refine aw_iconst (v := (1 : Int32)) dX5_add_45 (by decide) ?_
  refine aw_iadd dX5_add_46 ?_
  obtain ⟨I9, eI9, hF⟩ := qletE hF
  refine aw_putiq fl_X5_30 (by decide) fs_X5_1 fn_X5_1 ft_X5_1 ha0 eI9 rfl dX5_add_47 ?_
  cases hF
  exact aw_vret rfl dX5_add_50 rfl rfl rfl
def fX5_dropLast (R : qR) (I : qI) (a0 : Nat) : Option (qI) :=
  qlet (qup I a0 1 ((I a0 1) - (1 : Int32))) fun I1 =>
  (R.1 a0 5).bind fun r2 =>
  (R.1 a0 2).bind fun r3 =>
  (qrd I1 R r3 (I1 a0 1)).bind fun x4 =>
  (qwr I1 R r2 x4 (-1 : Int32)).bind fun I5 =>
  some I5
set_option maxHeartbeats 4000000 in
set_option maxRecDepth 100000 in
theorem sX5_dropLast {l : Launch} {G : qG} {R : qR} {I : qI} {a0 : Nat} {rI : qI} (hW : qWT R) (ha0 : qok R a0 5) (hF : fX5_dropLast R I a0 = some rI) : qMt l G mX5_dropLast 1 [.ref (G.1 + a0)] I R (none) rI R := by
  unfold fX5_dropLast at hF
  refine qMt_of (by decide) (Nat.le_of_ble_eq_true rfl) ⟨Nat.le_refl _, Nat.le_refl _⟩ ?_
  show AW _ 0 [(0, .ref (G.1 + a0))] [] I R
  refine aw_aload_n dX5_dropLast_0 0 rfl rfl ?_
  refine aw_dup dX5_dropLast_1 rfl ?_
  refine aw_geti fl_X5_30 (by decide) fg_X5_1 ha0 rfl dX5_dropLast_2 ?_
  refine aw_iconst (v := (1 : Int32)) dX5_dropLast_5 (by decide) ?_
  refine aw_isub dX5_dropLast_6 ?_
  obtain ⟨I1, eI1, hF⟩ := qletE hF
  refine aw_putiq fl_X5_30 (by decide) fs_X5_1 fn_X5_1 ft_X5_1 ha0 eI1 rfl dX5_dropLast_7 ?_
  refine aw_aload_n dX5_dropLast_10 0 rfl rfl ?_
  obtain ⟨r2, er2, hF⟩ := qbind hF
  have kr2 : qok R r2 9 := hW.get ha0 er2 rfl
  refine aw_getr fl_X5_21 (by decide) fg_X5_5 ha0 er2 rfl dX5_dropLast_11 ?_
  refine aw_aload_n dX5_dropLast_14 0 rfl rfl ?_
  obtain ⟨r3, er3, hF⟩ := qbind hF
  have kr3 : qok R r3 9 := hW.get ha0 er3 rfl
  refine aw_getr fl_X5_9 (by decide) fg_X5_2 ha0 er3 rfl dX5_dropLast_15 ?_
  refine aw_aload_n dX5_dropLast_18 0 rfl rfl ?_
  refine aw_geti fl_X5_30 (by decide) fg_X5_1 ha0 rfl dX5_dropLast_19 ?_
  obtain ⟨x4, ex4, hF⟩ := qbind hF
  refine aw_ialdq kr3 ex4 dX5_dropLast_22 ?_
  refine aw_iconst (v := (-1 : Int32)) dX5_dropLast_23 (by decide) ?_
  obtain ⟨I5, eI5, hF⟩ := qbind hF
  refine aw_iastq kr2 eI5 dX5_dropLast_24 ?_
  cases hF
  exact aw_vret rfl dX5_dropLast_25 rfl rfl rfl
def fX5_staysInDay (R : qR) (I : qI) (a0 : Nat) (p1 : Int32) : Option (Int32) :=
  if (I a0 1) = 0 then
    (some (1 : Int32))
  else
    ((R.1 a0 3).bind fun r2 =>
    (qrd I R r2 (0 : Int32)).bind fun x3 =>
    (R.1 a0 4).bind fun r4 =>
    (qrd I R r4 ((I a0 1) - (1 : Int32))).bind fun x5 =>
    if (lg_cmp ((x3).toInt64 + (p1).toInt64) (0 : Int64)) < 0 then
      (some (0 : Int32))
    else
      (if 0 ≤ (lg_cmp ((x5).toInt64 + (p1).toInt64) (1440 : Int64)) then
        (some (0 : Int32))
      else
        (some (1 : Int32))))
set_option maxHeartbeats 4000000 in
set_option maxRecDepth 100000 in
theorem sX5_staysInDay {l : Launch} {G : qG} {R : qR} {I : qI} {a0 : Nat} {p1 : Int32} {rv : Int32} (hW : qWT R) (ha0 : qok R a0 5) (hF : fX5_staysInDay R I a0 p1 = some rv) : qMt l G mX5_staysInDay 1 [.ref (G.1 + a0), .int p1] I R (some (.int rv)) I R := by
  unfold fX5_staysInDay at hF
  refine qMt_of (by decide) (Nat.le_of_ble_eq_true rfl) ⟨Nat.le_refl _, Nat.le_refl _⟩ ?_
  show AW _ 0 [(0, .ref (G.1 + a0)), (1, .int p1)] [] I R
  refine aw_aload_n dX5_staysInDay_0 0 rfl rfl ?_
  refine aw_geti fl_X5_30 (by decide) fg_X5_1 ha0 rfl dX5_staysInDay_1 ?_
  refine aw_if_ne (tgt := 9) dX5_staysInDay_4 (by decide) (fun c1 => ?_) (fun c1 => ?_)
  · rw [if_neg c1] at hF
    refine aw_aload_n dX5_staysInDay_9 0 rfl rfl ?_
    obtain ⟨r2, er2, hF⟩ := qbind hF
    have kr2 : qok R r2 9 := hW.get ha0 er2 rfl
    refine aw_getr fl_X5_15 (by decide) fg_X5_3 ha0 er2 rfl dX5_staysInDay_10 ?_
    refine aw_iconst (v := (0 : Int32)) dX5_staysInDay_13 (by decide) ?_
    obtain ⟨x3, ex3, hF⟩ := qbind hF
    refine aw_ialdq kr2 ex3 dX5_staysInDay_14 ?_
    refine aw_i2l dX5_staysInDay_15 ?_
    refine aw_iload_n dX5_staysInDay_16 1 rfl rfl ?_
    refine aw_i2l dX5_staysInDay_17 ?_
    refine aw_ladd dX5_staysInDay_18 ?_
    refine aw_lstore_n (lv' := [(2, .long ((x3).toInt64 + (p1).toInt64)), (0, .ref (G.1 + a0)), (1, .int p1)]) dX5_staysInDay_19 rfl (Nat.le_of_ble_eq_true rfl) rfl ?_
    refine aw_aload_n dX5_staysInDay_20 1 rfl rfl ?_
    obtain ⟨r4, er4, hF⟩ := qbind hF
    have kr4 : qok R r4 9 := hW.get ha0 er4 rfl
    refine aw_getr fl_X5_18 (by decide) fg_X5_4 ha0 er4 rfl dX5_staysInDay_21 ?_
    refine aw_aload_n dX5_staysInDay_24 1 rfl rfl ?_
    refine aw_geti fl_X5_30 (by decide) fg_X5_1 ha0 rfl dX5_staysInDay_25 ?_
    refine aw_iconst (v := (1 : Int32)) dX5_staysInDay_28 (by decide) ?_
    refine aw_isub dX5_staysInDay_29 ?_
    obtain ⟨x5, ex5, hF⟩ := qbind hF
    refine aw_ialdq kr4 ex5 dX5_staysInDay_30 ?_
    refine aw_i2l dX5_staysInDay_31 ?_
    refine aw_iload_n dX5_staysInDay_32 2 rfl rfl ?_
    refine aw_i2l dX5_staysInDay_33 ?_
    refine aw_ladd dX5_staysInDay_34 ?_
    refine aw_lstore (lv' := [(4, .long ((x5).toInt64 + (p1).toInt64)), (2, .long ((x3).toInt64 + (p1).toInt64)), (0, .ref (G.1 + a0)), (1, .int p1)]) dX5_staysInDay_35 (Nat.le_of_ble_eq_true rfl) rfl ?_
    refine aw_lload_n dX5_staysInDay_37 1 rfl rfl ?_
    refine aw_lconst (v := (0 : Int64)) dX5_staysInDay_38 (by decide) ?_
    refine aw_lcmp dX5_staysInDay_39 ?_
    refine aw_if_lt (tgt := 56) dX5_staysInDay_40 (by decide) (fun c6 => ?_) (fun c6 => ?_)
    · rw [if_pos c6] at hF
      refine aw_iconst (v := (0 : Int32)) dX5_staysInDay_56 (by decide) ?_
      cases hF
      exact aw_zret rfl (by decide) dX5_staysInDay_57 rfl rfl rfl
    · rw [if_neg c6] at hF
      refine aw_lload dX5_staysInDay_43 0 rfl ?_
      refine aw_ldc2 ck_X5_34 rfl dX5_staysInDay_45 ?_
      refine aw_lcmp dX5_staysInDay_48 ?_
      refine aw_if_ge (tgt := 56) dX5_staysInDay_49 (by decide) (fun c7 => ?_) (fun c7 => ?_)
      · rw [if_pos c7] at hF
        refine aw_iconst (v := (0 : Int32)) dX5_staysInDay_56 (by decide) ?_
        cases hF
        exact aw_zret rfl (by decide) dX5_staysInDay_57 rfl rfl rfl
      · rw [if_neg c7] at hF
        refine aw_iconst (v := (1 : Int32)) dX5_staysInDay_52 (by decide) ?_
        refine aw_goto (tgt := 57) dX5_staysInDay_53 (by decide) ?_
        cases hF
        exact aw_zret rfl (by decide) dX5_staysInDay_57 rfl rfl rfl
  · rw [if_pos c1] at hF
    refine aw_iconst (v := (1 : Int32)) dX5_staysInDay_7 (by decide) ?_
    cases hF
    exact aw_zret rfl (by decide) dX5_staysInDay_8 rfl rfl rfl
def cX5_move_2 (N : Nat) (R : qR) (b0 : Nat) (v1 : Int32) (v2 : Int32) (I : qI) : Option ((Int32 × qI) ⊕ (qI)) :=
  if (I b0 1) ≤ v2 then
    (some (.inr I))
  else
    ((R.1 b0 3).bind fun r2 =>
    (qrd I R r2 v2).bind fun x3 =>
    (qwr I R r2 v2 (x3 + v1)).bind fun I4 =>
    (R.1 b0 4).bind fun r5 =>
    (qrd I4 R r5 v2).bind fun x6 =>
    (qwr I4 R r5 v2 (x6 + v1)).bind fun I7 =>
    some (.inl ((v2 + 1), I7)))
set_option maxHeartbeats 4000000 in
set_option maxRecDepth 100000 in
theorem tX5_move_2 {l : Launch} {G : qG} {N : Nat} {R : qR} {As : List Value} {rv : Option Value} {I1 : qI} {b0 : Nat} {v1 : Int32} (hW : qWT R) (hb0 : qok R b0 5) {o : qI} (hx : AW (Zm l G mX5_move 1 As R rv I1 R) 36 [] [] o R) : ∀ n s, qloop (fun s => cX5_move_2 N R b0 v1 s.1 s.2) n s = some o → (match s with | (v2, I) => AW (Zm l G mX5_move 1 As R rv I1 R) 2 [(0, .ref (G.1 + b0)), (1, .int v1), (2, .int v2)] [] I R) := by
  apply qloop_ind
  intro s x hF hc he
  obtain ⟨v2, I⟩ := s
  change cX5_move_2 N R b0 v1 v2 I = some x at hF
  unfold cX5_move_2 at hF
  show AW _ 2 [(0, .ref (G.1 + b0)), (1, .int v1), (2, .int v2)] [] I R
  refine aw_iload_n dX5_move_2 2 rfl rfl ?_
  refine aw_aload_n dX5_move_3 0 rfl rfl ?_
  refine aw_geti fl_X5_30 (by decide) fg_X5_1 hb0 rfl dX5_move_4 ?_
  refine aw_icmp_ge (tgt := 36) dX5_move_7 (by decide) (fun c1 => ?_) (fun c1 => ?_)
  · rw [if_pos c1] at hF
    cases hF
    have hE := he _ rfl
    subst hE
    exact aw_sub [] rfl hx
  · rw [if_neg c1] at hF
    refine aw_aload_n dX5_move_10 0 rfl rfl ?_
    obtain ⟨r2, er2, hF⟩ := qbind hF
    have kr2 : qok R r2 9 := hW.get hb0 er2 rfl
    refine aw_getr fl_X5_15 (by decide) fg_X5_3 hb0 er2 rfl dX5_move_11 ?_
    refine aw_iload_n dX5_move_14 2 rfl rfl ?_
    refine aw_dup2 dX5_move_15 rfl rfl ?_
    obtain ⟨x3, ex3, hF⟩ := qbind hF
    refine aw_ialdq kr2 ex3 dX5_move_16 ?_
    refine aw_iload_n dX5_move_17 1 rfl rfl ?_
    refine aw_iadd dX5_move_18 ?_
    obtain ⟨I4, eI4, hF⟩ := qbind hF
    refine aw_iastq kr2 eI4 dX5_move_19 ?_
    refine aw_aload_n dX5_move_20 0 rfl rfl ?_
    obtain ⟨r5, er5, hF⟩ := qbind hF
    have kr5 : qok R r5 9 := hW.get hb0 er5 rfl
    refine aw_getr fl_X5_18 (by decide) fg_X5_4 hb0 er5 rfl dX5_move_21 ?_
    refine aw_iload_n dX5_move_24 2 rfl rfl ?_
    refine aw_dup2 dX5_move_25 rfl rfl ?_
    obtain ⟨x6, ex6, hF⟩ := qbind hF
    refine aw_ialdq kr5 ex6 dX5_move_26 ?_
    refine aw_iload_n dX5_move_27 1 rfl rfl ?_
    refine aw_iadd dX5_move_28 ?_
    obtain ⟨I7, eI7, hF⟩ := qbind hF
    refine aw_iastq kr5 eI7 dX5_move_29 ?_
    refine aw_iinc (q := 2) (v := (v2 + 1)) (lv' := [(2, .int (v2 + 1)), (0, .ref (G.1 + b0)), (1, .int v1)]) dX5_move_30 rfl rfl (Nat.le_of_ble_eq_true rfl) rfl ?_
    refine aw_goto (tgt := 2) dX5_move_33 (by decide) ?_
    cases hF
    exact aw_sub [1, 2, 0] rfl (hc ((v2 + 1), I7) rfl)
def fX5_move (N : Nat) (R : qR) (I : qI) (a0 : Nat) (p1 : Int32) : Option (qI) :=
  (qloop (fun s => cX5_move_2 N R a0 p1 s.1 s.2) N ((0 : Int32), I)).bind fun o8 =>
  some o8
set_option maxHeartbeats 4000000 in
set_option maxRecDepth 100000 in
theorem sX5_move {l : Launch} {G : qG} {N : Nat} {R : qR} {I : qI} {a0 : Nat} {p1 : Int32} {rI : qI} (hW : qWT R) (ha0 : qok R a0 5) (hF : fX5_move N R I a0 p1 = some rI) : qMt l G mX5_move 1 [.ref (G.1 + a0), .int p1] I R (none) rI R := by
  unfold fX5_move at hF
  refine qMt_of (by decide) (Nat.le_of_ble_eq_true rfl) ⟨Nat.le_refl _, Nat.le_refl _⟩ ?_
  show AW _ 0 [(0, .ref (G.1 + a0)), (1, .int p1)] [] I R
  refine aw_iconst (v := (0 : Int32)) dX5_move_0 (by decide) ?_
  refine aw_istore_n (lv' := [(2, .int (0 : Int32)), (0, .ref (G.1 + a0)), (1, .int p1)]) dX5_move_1 rfl (Nat.le_of_ble_eq_true rfl) rfl ?_
  obtain ⟨o8, eo8, hF⟩ := qbind hF
  refine aw_sub [1, 2, 0] rfl (tX5_move_2 hW ha0 (o := o8) ?_ N ((0 : Int32), I) eo8)
  show AW _ 36 [] [] o8 R
  cases hF
  exact aw_vret rfl dX5_move_36 rfl rfl rfl
def fX5_runsOn (R : qR) (I : qI) (a0 : Nat) (p1 : Int32) : Option (Int32) :=
  if (((I a0 0) >>> (p1 &&& 31)) &&& (1 : Int32)) = 0 then
    (some (0 : Int32))
  else
    (some (1 : Int32))
set_option maxHeartbeats 4000000 in
set_option maxRecDepth 100000 in
theorem sX5_runsOn {l : Launch} {G : qG} {R : qR} {I : qI} {a0 : Nat} {p1 : Int32} {rv : Int32} (hW : qWT R) (ha0 : qok R a0 5) (hF : fX5_runsOn R I a0 p1 = some rv) : qMt l G mX5_runsOn 1 [.ref (G.1 + a0), .int p1] I R (some (.int rv)) I R := by
  unfold fX5_runsOn at hF
  refine qMt_of (by decide) (Nat.le_of_ble_eq_true rfl) ⟨Nat.le_refl _, Nat.le_refl _⟩ ?_
  show AW _ 0 [(0, .ref (G.1 + a0)), (1, .int p1)] [] I R
  refine aw_aload_n dX5_runsOn_0 0 rfl rfl ?_
  refine aw_geti fl_X5_36 (by decide) fg_X5_0 ha0 rfl dX5_runsOn_1 ?_
  refine aw_iload_n dX5_runsOn_4 1 rfl rfl ?_
  refine aw_ishr dX5_runsOn_5 ?_
  refine aw_iconst (v := (1 : Int32)) dX5_runsOn_6 (by decide) ?_
  refine aw_iand dX5_runsOn_7 ?_
  refine aw_if_eq (tgt := 15) dX5_runsOn_8 (by decide) (fun c1 => ?_) (fun c1 => ?_)
  · rw [if_pos c1] at hF
    refine aw_iconst (v := (0 : Int32)) dX5_runsOn_15 (by decide) ?_
    cases hF
    exact aw_zret rfl (by decide) dX5_runsOn_16 rfl rfl rfl
  · rw [if_neg c1] at hF
    refine aw_iconst (v := (1 : Int32)) dX5_runsOn_11 (by decide) ?_
    refine aw_goto (tgt := 16) dX5_runsOn_12 (by decide) ?_
    cases hF
    exact aw_zret rfl (by decide) dX5_runsOn_16 rfl rfl rfl
def fX5_read (R : qR) (I : qI) (a0 : Nat) (p1 : Int32) : Option (Int32) :=
  if p1 = 0 then
    (some (I a0 0))
  else
    (if p1 = (1 : Int32) then
      (some (I a0 1))
    else
      (if ((p1 / (10 : Int32)) - (1 : Int32)) < 0 then
        (some (-1 : Int32))
      else
        (if ((p1 / (10 : Int32)) - (1 : Int32)) < (I a0 1) then
          (if (p1 - p1 / (10 : Int32) * (10 : Int32)) = (0 : Int32) then
            ((R.1 a0 2).bind fun r6 =>
            (qrd I R r6 ((p1 / (10 : Int32)) - (1 : Int32))).bind fun x7 =>
            some x7)
          else
          if (p1 - p1 / (10 : Int32) * (10 : Int32)) = (1 : Int32) then
            ((R.1 a0 3).bind fun r9 =>
            (qrd I R r9 ((p1 / (10 : Int32)) - (1 : Int32))).bind fun x10 =>
            some x10)
          else
          if (p1 - p1 / (10 : Int32) * (10 : Int32)) = (2 : Int32) then
            ((R.1 a0 4).bind fun r12 =>
            (qrd I R r12 ((p1 / (10 : Int32)) - (1 : Int32))).bind fun x13 =>
            some x13)
          else
          some (-1 : Int32))
        else
          (some (-1 : Int32)))))
set_option maxHeartbeats 4000000 in
set_option maxRecDepth 100000 in
theorem sX5_read {l : Launch} {G : qG} {R : qR} {I : qI} {a0 : Nat} {p1 : Int32} {rv : Int32} (hW : qWT R) (ha0 : qok R a0 5) (hF : fX5_read R I a0 p1 = some rv) : qMt l G mX5_read 1 [.ref (G.1 + a0), .int p1] I R (some (.int rv)) I R := by
  unfold fX5_read at hF
  refine qMt_of (by decide) (Nat.le_of_ble_eq_true rfl) ⟨Nat.le_refl _, Nat.le_refl _⟩ ?_
  show AW _ 0 [(0, .ref (G.1 + a0)), (1, .int p1)] [] I R
  refine aw_iload_n dX5_read_0 1 rfl rfl ?_
  refine aw_if_ne (tgt := 9) dX5_read_1 (by decide) (fun c1 => ?_) (fun c1 => ?_)
  · rw [if_neg c1] at hF
    refine aw_iload_n dX5_read_9 1 rfl rfl ?_
    refine aw_iconst (v := (1 : Int32)) dX5_read_10 (by decide) ?_
    refine aw_icmp_ne (tgt := 19) dX5_read_11 (by decide) (fun c2 => ?_) (fun c2 => ?_)
    · rw [if_neg c2] at hF
      refine aw_iload_n dX5_read_19 1 rfl rfl ?_
      refine aw_bipush (v := (10 : Int32)) dX5_read_20 (by decide) ?_
      refine aw_idiv dX5_read_22 (by decide) ?_
      refine aw_iconst (v := (1 : Int32)) dX5_read_23 (by decide) ?_
      refine aw_isub dX5_read_24 ?_
      refine aw_istore_n (lv' := [(2, .int ((p1 / (10 : Int32)) - (1 : Int32))), (0, .ref (G.1 + a0)), (1, .int p1)]) dX5_read_25 rfl (Nat.le_of_ble_eq_true rfl) rfl ?_
      refine aw_iload_n dX5_read_26 0 rfl rfl ?_
      refine aw_if_lt (tgt := 38) dX5_read_27 (by decide) (fun c3 => ?_) (fun c3 => ?_)
      · rw [if_pos c3] at hF
        refine aw_iconst (v := (-1 : Int32)) dX5_read_38 (by decide) ?_
        cases hF
        exact aw_iret rfl dX5_read_39 rfl rfl rfl
      · rw [if_neg c3] at hF
        refine aw_iload_n dX5_read_30 0 rfl rfl ?_
        refine aw_aload_n dX5_read_31 1 rfl rfl ?_
        refine aw_geti fl_X5_30 (by decide) fg_X5_1 ha0 rfl dX5_read_32 ?_
        refine aw_icmp_lt (tgt := 40) dX5_read_35 (by decide) (fun c4 => ?_) (fun c4 => ?_)
        · rw [if_pos c4] at hF
          refine aw_iload_n dX5_read_40 2 rfl rfl ?_
          refine aw_bipush (v := (10 : Int32)) dX5_read_41 (by decide) ?_
          refine aw_irem dX5_read_43 (by decide) ?_
          by_cases c5 : (p1 - p1 / (10 : Int32) * (10 : Int32)) = (0 : Int32)
          · rw [if_pos c5] at hF
            refine aw_tableEq (tgt := 72) dX5_read_44 c5 (by decide) (by decide) rfl (by decide) ?_
            refine aw_aload_n dX5_read_72 1 rfl rfl ?_
            obtain ⟨r6, er6, hF⟩ := qbind hF
            have kr6 : qok R r6 9 := hW.get ha0 er6 rfl
            refine aw_getr fl_X5_9 (by decide) fg_X5_2 ha0 er6 rfl dX5_read_73 ?_
            refine aw_iload_n dX5_read_76 0 rfl rfl ?_
            obtain ⟨x7, ex7, hF⟩ := qbind hF
            refine aw_ialdq kr6 ex7 dX5_read_77 ?_
            cases hF
            exact aw_iret rfl dX5_read_78 rfl rfl rfl
          · rw [if_neg c5] at hF
            by_cases c8 : (p1 - p1 / (10 : Int32) * (10 : Int32)) = (1 : Int32)
            · rw [if_pos c8] at hF
              refine aw_tableEq (tgt := 79) dX5_read_44 c8 (by decide) (by decide) rfl (by decide) ?_
              refine aw_aload_n dX5_read_79 1 rfl rfl ?_
              obtain ⟨r9, er9, hF⟩ := qbind hF
              have kr9 : qok R r9 9 := hW.get ha0 er9 rfl
              refine aw_getr fl_X5_15 (by decide) fg_X5_3 ha0 er9 rfl dX5_read_80 ?_
              refine aw_iload_n dX5_read_83 0 rfl rfl ?_
              obtain ⟨x10, ex10, hF⟩ := qbind hF
              refine aw_ialdq kr9 ex10 dX5_read_84 ?_
              cases hF
              exact aw_iret rfl dX5_read_85 rfl rfl rfl
            · rw [if_neg c8] at hF
              by_cases c11 : (p1 - p1 / (10 : Int32) * (10 : Int32)) = (2 : Int32)
              · rw [if_pos c11] at hF
                refine aw_tableEq (tgt := 86) dX5_read_44 c11 (by decide) (by decide) rfl (by decide) ?_
                refine aw_aload_n dX5_read_86 1 rfl rfl ?_
                obtain ⟨r12, er12, hF⟩ := qbind hF
                have kr12 : qok R r12 9 := hW.get ha0 er12 rfl
                refine aw_getr fl_X5_18 (by decide) fg_X5_4 ha0 er12 rfl dX5_read_87 ?_
                refine aw_iload_n dX5_read_90 0 rfl rfl ?_
                obtain ⟨x13, ex13, hF⟩ := qbind hF
                refine aw_ialdq kr12 ex13 dX5_read_91 ?_
                cases hF
                exact aw_iret rfl dX5_read_92 rfl rfl rfl
              · rw [if_neg c11] at hF
                refine aw_tableOut (tgt := 93) dX5_read_44 (qtout _ 2 (fun j hj => by
                  match j, hj with
                  | 0, _ => exact c5
                  | 1, _ => exact c8
                  | 2, _ => exact c11
                  | j + 3, h => exact absurd h (by omega))) (by decide) ?_
                refine aw_iconst (v := (-1 : Int32)) dX5_read_93 (by decide) ?_
                cases hF
                exact aw_iret rfl dX5_read_94 rfl rfl rfl
        · rw [if_neg c4] at hF
          refine aw_iconst (v := (-1 : Int32)) dX5_read_38 (by decide) ?_
          cases hF
          exact aw_iret rfl dX5_read_39 rfl rfl rfl
    · rw [if_pos c2] at hF
      refine aw_aload_n dX5_read_14 0 rfl rfl ?_
      refine aw_geti fl_X5_30 (by decide) fg_X5_1 ha0 rfl dX5_read_15 ?_
      cases hF
      exact aw_iret rfl dX5_read_18 rfl rfl rfl
  · rw [if_pos c1] at hF
    refine aw_aload_n dX5_read_4 0 rfl rfl ?_
    refine aw_geti fl_X5_36 (by decide) fg_X5_0 ha0 rfl dX5_read_5 ?_
    cases hF
    exact aw_iret rfl dX5_read_8 rfl rfl rfl
