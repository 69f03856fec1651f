def cX6_soonestAt_47 (N : Nat) (R : qR) (b0 : Nat) (v2 : Int32) (v5 : Int32) (v4 : Int32) (v6 : Int32) (I : qI) : Option ((Int32 × Int32 × qI) ⊕ (Int32 × qI)) :=
  if (I b0 1) ≤ v6 then
    (some (.inr (v4, I)))
  else
    ((R.1 b0 0).bind fun r7 =>
    (qra R r7 v6).bind fun r8 =>
    (fX5_runsOn R I r8 (I b0 2)).bind fun y9 =>
    if y9 = 0 then
      (some (.inl ((v4 ||| (0 : Int32)), (v6 + 1), I)))
    else
      ((fX6_ride N R I b0 r8).bind fun y11 =>
      if y11.1 = 0 then
        (some (.inl ((v4 ||| (0 : Int32)), (v6 + 1), y11.2)))
      else
        (some (.inl ((v4 ||| (1 : Int32)), (v6 + 1), y11.2)))))
set_option maxHeartbeats 4000000 in
set_option maxRecDepth 100000 in
theorem tX6_soonestAt_47 {l : Launch} {G : qG} {N : Nat} {R : qR} {As : List Value} {rv : Option Value} {I1 : qI} {b0 : Nat} {v2 : Int32} {v5 : Int32} (hW : qWT R) (hb0 : qok R b0 6) {o : Int32 × qI} (hx : match o with | (z0, z1) => AW (Zm l G mX6_soonestAt 2 As R rv I1 R) 103 [(0, .ref (G.1 + b0)), (2, .int v2), (4, .int z0), (5, .int v5)] [] z1 R) : ∀ n s, qloop (fun s => cX6_soonestAt_47 N R b0 v2 v5 s.1 s.2.1 s.2.2) n s = some o → (match s with | (v4, v6, I) => AW (Zm l G mX6_soonestAt 2 As R rv I1 R) 47 [(0, .ref (G.1 + b0)), (2, .int v2), (4, .int v4), (5, .int v5), (6, .int v6)] [] I R) := by
  apply qloop_ind
  intro s x hF hc he
  obtain ⟨v4, v6, I⟩ := s
  change cX6_soonestAt_47 N R b0 v2 v5 v4 v6 I = some x at hF
  unfold cX6_soonestAt_47 at hF
  show AW _ 47 [(0, .ref (G.1 + b0)), (2, .int v2), (4, .int v4), (5, .int v5), (6, .int v6)] [] I R
  refine aw_iload dX6_soonestAt_47 4 rfl ?_
  refine aw_aload_n dX6_soonestAt_49 0 rfl rfl ?_
  refine aw_geti fl_X6_42 (by decide) fg_X6_1 hb0 rfl dX6_soonestAt_50 ?_
  refine aw_icmp_ge (tgt := 103) dX6_soonestAt_53 (by decide) (fun c6 => ?_) (fun c6 => ?_)
  · rw [if_pos c6] at hF
    cases hF
    have hE := he _ rfl
    subst hE
    exact aw_sub [0, 1, 2, 3] rfl hx
  · rw [if_neg c6] at hF
    refine aw_iload dX6_soonestAt_56 2 rfl ?_
    refine aw_aload_n dX6_soonestAt_58 0 rfl rfl ?_
    obtain ⟨r7, er7, hF⟩ := qbind hF
    have kr7 : qok R r7 11 := hW.get hb0 er7 rfl
    refine aw_getr fl_X6_11 (by decide) fg_X6_0 hb0 er7 rfl dX6_soonestAt_59 ?_
    refine aw_iload dX6_soonestAt_62 4 rfl ?_
    obtain ⟨r8, er8, hF⟩ := qbind hF
    have kr8 : qok R r8 5 := hW.elem kr7 er8
    refine aw_aaldq kr7 er8 dX6_soonestAt_64 ?_
    refine aw_aload_n dX6_soonestAt_65 0 rfl rfl ?_
    refine aw_geti fl_X6_46 (by decide) fg_X6_2 hb0 rfl dX6_soonestAt_66 ?_
    obtain ⟨y9, ey9, hF⟩ := qbind hF
    refine aw_callVi (As := [.int (I b0 2)]) (sX5_runsOn hW kr8 ey9) cl_X6_103 rfl (qroomL (by decide) (by decide)) rfl kr8 (Nat.le_of_ble_eq_true rfl) dX6_soonestAt_69 rfl ?_
    refine aw_if_eq (tgt := 93) dX6_soonestAt_72 (by decide) (fun c10 => ?_) (fun c10 => ?_)
    · rw [if_pos c10] at hF
      refine aw_iconst (v := (0 : Int32)) dX6_soonestAt_93 (by decide) ?_
      refine aw_ior dX6_soonestAt_94 ?_
      refine aw_istore (lv' := [(4, .int (v4 ||| (0 : Int32))), (0, .ref (G.1 + b0)), (2, .int v2), (5, .int v5), (6, .int v6)]) dX6_soonestAt_95 (Nat.le_of_ble_eq_true rfl) rfl ?_
      refine aw_iinc (q := 4) (v := (v6 + 1)) (lv' := [(6, .int (v6 + 1)), (4, .int (v4 ||| (0 : Int32))), (0, .ref (G.1 + b0)), (2, .int v2), (5, .int v5)]) dX6_soonestAt_97 rfl rfl (Nat.le_of_ble_eq_true rfl) rfl ?_
      refine aw_goto (tgt := 47) dX6_soonestAt_100 (by decide) ?_
      cases hF
      exact aw_sub [2, 3, 1, 4, 0] rfl (hc ((v4 ||| (0 : Int32)), (v6 + 1), I) rfl)
    · rw [if_neg c10] at hF
      refine aw_aload_n dX6_soonestAt_75 0 rfl rfl ?_
      refine aw_aload_n dX6_soonestAt_76 0 rfl rfl ?_
      refine aw_getr fl_X6_11 (by decide) fg_X6_0 hb0 er7 rfl dX6_soonestAt_77 ?_
      refine aw_iload dX6_soonestAt_80 4 rfl ?_
      refine aw_aaldq kr7 er8 dX6_soonestAt_82 ?_
      obtain ⟨y11, ey11, hF⟩ := qbind hF
      refine aw_callVi (As := [.ref (G.1 + r8)]) (sX6_ride hW hb0 kr8 ey11) cl_X6_107 rfl (qroomL (by decide) (by decide)) rfl hb0 (Nat.le_of_ble_eq_true rfl) dX6_soonestAt_83 rfl ?_
      refine aw_if_eq (tgt := 93) dX6_soonestAt_86 (by decide) (fun c12 => ?_) (fun c12 => ?_)
      · rw [if_pos c12] at hF
        refine aw_iconst (v := (0 : Int32)) dX6_soonestAt_93 (by decide) ?_
        refine aw_ior dX6_soonestAt_94 ?_
        refine aw_istore (lv' := [(4, .int (v4 ||| (0 : Int32))), (0, .ref (G.1 + b0)), (2, .int v2), (5, .int v5), (6, .int v6)]) dX6_soonestAt_95 (Nat.le_of_ble_eq_true rfl) rfl ?_
        refine aw_iinc (q := 4) (v := (v6 + 1)) (lv' := [(6, .int (v6 + 1)), (4, .int (v4 ||| (0 : Int32))), (0, .ref (G.1 + b0)), (2, .int v2), (5, .int v5)]) dX6_soonestAt_97 rfl rfl (Nat.le_of_ble_eq_true rfl) rfl ?_
        refine aw_goto (tgt := 47) dX6_soonestAt_100 (by decide) ?_
        cases hF
        exact aw_sub [2, 3, 1, 4, 0] rfl (hc ((v4 ||| (0 : Int32)), (v6 + 1), y11.2) rfl)
      · rw [if_neg c12] at hF
        refine aw_iconst (v := (1 : Int32)) dX6_soonestAt_89 (by decide) ?_
        refine aw_goto (tgt := 94) dX6_soonestAt_90 (by decide) ?_
        refine aw_ior dX6_soonestAt_94 ?_
        refine aw_istore (lv' := [(4, .int (v4 ||| (1 : Int32))), (0, .ref (G.1 + b0)), (2, .int v2), (5, .int v5), (6, .int v6)]) dX6_soonestAt_95 (Nat.le_of_ble_eq_true rfl) rfl ?_
        refine aw_iinc (q := 4) (v := (v6 + 1)) (lv' := [(6, .int (v6 + 1)), (4, .int (v4 ||| (1 : Int32))), (0, .ref (G.1 + b0)), (2, .int v2), (5, .int v5)]) dX6_soonestAt_97 rfl rfl (Nat.le_of_ble_eq_true rfl) rfl ?_
        refine aw_goto (tgt := 47) dX6_soonestAt_100 (by decide) ?_
        cases hF
        exact aw_sub [2, 3, 1, 4, 0] rfl (hc ((v4 ||| (1 : Int32)), (v6 + 1), y11.2) rfl)
def cX6_soonestAt_27 (N : Nat) (R : qR) (b0 : Nat) (v2 : Int32) (v4 : Int32) (v5 : Int32) (I : qI) : Option ((Int32 × Int32 × qI) ⊕ (qI)) :=
  if (I b0 1) ≤ v5 then
    (some (.inr I))
  else
    (if v4 = 0 then
      (some (.inr I))
    else
      ((qloop (fun s => cX6_soonestAt_47 N R b0 v2 v5 s.1 s.2.1 s.2.2) N ((0 : Int32), (0 : Int32), I)).bind fun o13 =>
      some (.inl (o13.1, (v5 + 1), o13.2))))
set_option maxHeartbeats 4000000 in
set_option maxRecDepth 100000 in
theorem tX6_soonestAt_27 {l : Launch} {G : qG} {N : Nat} {R : qR} {As : List Value} {rv : Option Value} {I1 : qI} {b0 : Nat} {v2 : Int32} (hW : qWT R) (hb0 : qok R b0 6) {o : qI} (hx : AW (Zm l G mX6_soonestAt 2 As R rv I1 R) 109 [(0, .ref (G.1 + b0)), (2, .int v2)] [] o R) : ∀ n s, qloop (fun s => cX6_soonestAt_27 N R b0 v2 s.1 s.2.1 s.2.2) n s = some o → (match s with | (v4, v5, I) => AW (Zm l G mX6_soonestAt 2 As R rv I1 R) 27 [(0, .ref (G.1 + b0)), (2, .int v2), (4, .int v4), (5, .int v5)] [] I R) := by
  apply qloop_ind
  intro s x hF hc he
  obtain ⟨v4, v5, I⟩ := s
  change cX6_soonestAt_27 N R b0 v2 v4 v5 I = some x at hF
  unfold cX6_soonestAt_27 at hF
  show AW _ 27 [(0, .ref (G.1 + b0)), (2, .int v2), (4, .int v4), (5, .int v5)] [] I R
  refine aw_iload dX6_soonestAt_27 3 rfl ?_
  refine aw_aload_n dX6_soonestAt_29 0 rfl rfl ?_
  refine aw_geti fl_X6_42 (by decide) fg_X6_1 hb0 rfl dX6_soonestAt_30 ?_
  refine aw_icmp_ge (tgt := 109) dX6_soonestAt_33 (by decide) (fun c4 => ?_) (fun c4 => ?_)
  · rw [if_pos c4] at hF
    cases hF
    have hE := he _ rfl
    subst hE
    exact aw_sub [0, 1] rfl hx
  · rw [if_neg c4] at hF
    refine aw_iload dX6_soonestAt_36 2 rfl ?_
    refine aw_if_eq (tgt := 109) dX6_soonestAt_38 (by decide) (fun c5 => ?_) (fun c5 => ?_)
    · rw [if_pos c5] at hF
      cases hF
      have hE := he _ rfl
      subst hE
      exact aw_sub [0, 1] rfl hx
    · rw [if_neg c5] at hF
      refine aw_iconst (v := (0 : Int32)) dX6_soonestAt_41 (by decide) ?_
      refine aw_istore (lv' := [(4, .int (0 : Int32)), (0, .ref (G.1 + b0)), (2, .int v2), (5, .int v5)]) dX6_soonestAt_42 (Nat.le_of_ble_eq_true rfl) rfl ?_
      refine aw_iconst (v := (0 : Int32)) dX6_soonestAt_44 (by decide) ?_
      refine aw_istore (lv' := [(6, .int (0 : Int32)), (4, .int (0 : Int32)), (0, .ref (G.1 + b0)), (2, .int v2), (5, .int v5)]) dX6_soonestAt_45 (Nat.le_of_ble_eq_true rfl) rfl ?_
      obtain ⟨o13, eo13, hF⟩ := qbind hF
      refine aw_sub [2, 3, 1, 4, 0] rfl (tX6_soonestAt_47 hW hb0 (o := o13) ?_ N ((0 : Int32), (0 : Int32), I) eo13)
      show AW _ 103 [(0, .ref (G.1 + b0)), (2, .int v2), (4, .int o13.1), (5, .int v5)] [] o13.2 R
      refine aw_iinc (q := 3) (v := (v5 + 1)) (lv' := [(5, .int (v5 + 1)), (0, .ref (G.1 + b0)), (2, .int v2), (4, .int o13.1)]) dX6_soonestAt_103 rfl rfl (Nat.le_of_ble_eq_true rfl) rfl ?_
      refine aw_goto (tgt := 27) dX6_soonestAt_106 (by decide) ?_
      cases hF
      exact aw_sub [1, 2, 3, 0] rfl (hc (o13.1, (v5 + 1), o13.2) rfl)
def fX6_soonestAt (N : Nat) (R : qR) (I : qI) (a0 : Nat) (p1 : Int32) (p2 : Int32) (p3 : Int32) : Option (Int32 × qI) :=
  (R.1 a0 4).bind fun r1 =>
  (fJ7_fill_53178 N R I r1 (1000000 : Int32)).bind fun y2 =>
  (qwr y2 R r1 p1 (p3 - (y2 a0 3))).bind fun I3 =>
  (qloop (fun s => cX6_soonestAt_27 N R a0 p2 s.1 s.2.1 s.2.2) N ((1 : Int32), (0 : Int32), I3)).bind fun o14 =>
  (qrd o14 R r1 p2).bind fun x15 =>
  some (x15, o14)
set_option maxHeartbeats 4000000 in
set_option maxRecDepth 100000 in
theorem sX6_soonestAt {l : Launch} {G : qG} {N : Nat} {R : qR} {I : qI} {a0 : Nat} {p1 : Int32} {p2 : Int32} {p3 : Int32} {rv : Int32} {rI : qI} (hW : qWT R) (ha0 : qok R a0 6) (hF : fX6_soonestAt N R I a0 p1 p2 p3 = some (rv, rI)) : qMt l G mX6_soonestAt 2 [.ref (G.1 + a0), .int p1, .int p2, .int p3] I R (some (.int rv)) rI R := by
  unfold fX6_soonestAt at hF
  refine qMt_of (by decide) (Nat.le_of_ble_eq_true rfl) ⟨Nat.le_refl _, Nat.le_refl _⟩ ?_
  show AW _ 0 [(0, .ref (G.1 + a0)), (1, .int p1), (2, .int p2), (3, .int p3)] [] I R
  refine aw_aload_n dX6_soonestAt_0 0 rfl rfl ?_
  obtain ⟨r1, er1, hF⟩ := qbind hF
  have kr1 : qok R r1 9 := hW.get ha0 er1 rfl
  refine aw_getr fl_X6_17 (by decide) fg_X6_4 ha0 er1 rfl dX6_soonestAt_1 ?_
  refine aw_ldc ck_X6_59 rfl dX6_soonestAt_4 ?_
  obtain ⟨y2, ey2, hF⟩ := qbind hF
  refine aw_callSv (sJ7_fill_53178 hW kr1 ey2) cl_X6_97 rfl (qroomL (by decide) (by decide)) rfl (Nat.le_of_ble_eq_true rfl) dX6_soonestAt_6 rfl ?_
  refine aw_aload_n dX6_soonestAt_9 0 rfl rfl ?_
  refine aw_getr fl_X6_17 (by decide) fg_X6_4 ha0 er1 rfl dX6_soonestAt_10 ?_
  refine aw_iload_n dX6_soonestAt_13 1 rfl rfl ?_
  refine aw_iload_n dX6_soonestAt_14 3 rfl rfl ?_
  refine aw_aload_n dX6_soonestAt_15 0 rfl rfl ?_
  refine aw_geti fl_X6_49 (by decide) fg_X6_3 ha0 rfl dX6_soonestAt_16 ?_
  refine aw_isub dX6_soonestAt_19 ?_
  obtain ⟨I3, eI3, hF⟩ := qbind hF
  refine aw_iastq kr1 eI3 dX6_soonestAt_20 ?_
  refine aw_iconst (v := (1 : Int32)) dX6_soonestAt_21 (by decide) ?_
  refine aw_istore (lv' := [(4, .int (1 : Int32)), (0, .ref (G.1 + a0)), (1, .int p1), (2, .int p2), (3, .int p3)]) dX6_soonestAt_22 (Nat.le_of_ble_eq_true rfl) rfl ?_
  refine aw_iconst (v := (0 : Int32)) dX6_soonestAt_24 (by decide) ?_
  refine aw_istore (lv' := [(5, .int (0 : Int32)), (4, .int (1 : Int32)), (0, .ref (G.1 + a0)), (1, .int p1), (2, .int p2), (3, .int p3)]) dX6_soonestAt_25 (Nat.le_of_ble_eq_true rfl) rfl ?_
  obtain ⟨o14, eo14, hF⟩ := qbind hF
  refine aw_sub [2, 4, 1, 0] rfl (tX6_soonestAt_27 hW ha0 (o := o14) ?_ N ((1 : Int32), (0 : Int32), I3) eo14)
  show AW _ 109 [(0, .ref (G.1 + a0)), (2, .int p2)] [] o14 R
  refine aw_aload_n dX6_soonestAt_109 0 rfl rfl ?_
  refine aw_getr fl_X6_17 (by decide) fg_X6_4 ha0 er1 rfl dX6_soonestAt_110 ?_
  refine aw_iload_n dX6_soonestAt_113 1 rfl rfl ?_
  obtain ⟨x15, ex15, hF⟩ := qbind hF
  refine aw_ialdq kr1 ex15 dX6_soonestAt_114 ?_
  cases hF
  exact aw_iret rfl dX6_soonestAt_115 rfl rfl rfl
def fX6_findBest (N : Nat) (R : qR) (I : qI) (a0 : Nat) (p1 : Int32) (p2 : Int32) (p3 : Int32) : Option (Int32 × qI) :=
  (fX6_soonestAt N R I a0 p1 p2 p3).bind fun y1 =>
  qlet (qup y1.2 a0 6 y1.1) fun I2 =>
  if (I2 a0 6) = (1000000 : Int32) then
    (some ((0 : Int32), I2))
  else
    ((fX6_countLegs N R I2 a0 p1 p2 p3).bind fun y4 =>
    (fX6_chooseTrains N R y4 a0 p1 p3).bind fun y5 =>
    (fX6_chooseStations N R y5 a0 p2).bind fun y6 =>
    some ((1 : Int32), y6))
set_option maxHeartbeats 4000000 in
set_option maxRecDepth 100000 in
theorem sX6_findBest {l : Launch} {G : qG} {N : Nat} {R : qR} {I : qI} {a0 : Nat} {p1 : Int32} {p2 : Int32} {p3 : Int32} {rv : Int32} {rI : qI} (hW : qWT R) (ha0 : qok R a0 6) (hF : fX6_findBest N R I a0 p1 p2 p3 = some (rv, rI)) : qMt l G mX6_findBest 5 [.ref (G.1 + a0), .int p1, .int p2, .int p3] I R (some (.int rv)) rI R := by
  unfold fX6_findBest at hF
  refine qMt_of (by decide) (Nat.le_of_ble_eq_true rfl) ⟨Nat.le_refl _, Nat.le_refl _⟩ ?_
  show AW _ 0 [(0, .ref (G.1 + a0)), (1, .int p1), (2, .int p2), (3, .int p3)] [] I R
  refine aw_aload_n dX6_findBest_0 0 rfl rfl ?_
  refine aw_aload_n dX6_findBest_1 0 rfl rfl ?_
  refine aw_iload_n dX6_findBest_2 1 rfl rfl ?_
  refine aw_iload_n dX6_findBest_3 2 rfl rfl ?_
  refine aw_iload_n dX6_findBest_4 3 rfl rfl ?_
  obtain ⟨y1, ey1, hF⟩ := qbind hF
  refine aw_callVi (As := [.int p1, .int p2, .int p3]) (sX6_soonestAt hW ha0 ey1) cl_X6_52 rfl (qroomL (by decide) (by decide)) rfl ha0 (Nat.le_of_ble_eq_true rfl) dX6_findBest_5 rfl ?_
  obtain ⟨I2, eI2, hF⟩ := qletE hF
  refine aw_putiq fl_X6_56 (by decide) fs_X6_6 fn_X6_6 ft_X6_6 ha0 eI2 rfl dX6_findBest_8 ?_
  refine aw_aload_n dX6_findBest_11 0 rfl rfl ?_
  refine aw_geti fl_X6_56 (by decide) fg_X6_6 ha0 rfl dX6_findBest_12 ?_
  refine aw_ldc ck_X6_59 rfl dX6_findBest_15 ?_
  refine aw_icmp_ne (tgt := 22) dX6_findBest_17 (by decide) (fun c3 => ?_) (fun c3 => ?_)
  · rw [if_neg c3] at hF
    refine aw_aload_n dX6_findBest_22 0 rfl rfl ?_
    refine aw_iload_n dX6_findBest_23 1 rfl rfl ?_
    refine aw_iload_n dX6_findBest_24 2 rfl rfl ?_
    refine aw_iload_n dX6_findBest_25 3 rfl rfl ?_
    obtain ⟨y4, ey4, hF⟩ := qbind hF
    refine aw_callVv (As := [.int p1, .int p2, .int p3]) (sX6_countLegs hW ha0 ey4) cl_X6_60 rfl (qroomL (by decide) (by decide)) rfl ha0 (Nat.le_of_ble_eq_true rfl) dX6_findBest_26 rfl ?_
    refine aw_aload_n dX6_findBest_29 0 rfl rfl ?_
    refine aw_iload_n dX6_findBest_30 1 rfl rfl ?_
    refine aw_iload_n dX6_findBest_31 3 rfl rfl ?_
    obtain ⟨y5, ey5, hF⟩ := qbind hF
    refine aw_callVv (As := [.int p1, .int p3]) (sX6_chooseTrains hW ha0 ey5) cl_X6_64 rfl (qroomL (by decide) (by decide)) rfl ha0 (Nat.le_of_ble_eq_true rfl) dX6_findBest_32 rfl ?_
    refine aw_aload_n dX6_findBest_35 0 rfl rfl ?_
    refine aw_iload_n dX6_findBest_36 2 rfl rfl ?_
    obtain ⟨y6, ey6, hF⟩ := qbind hF
    refine aw_callVv (As := [.int p2]) (sX6_chooseStations hW ha0 ey6) cl_X6_68 rfl (qroomL (by decide) (by decide)) rfl ha0 (Nat.le_of_ble_eq_true rfl) dX6_findBest_37 rfl ?_
    refine aw_iconst (v := (1 : Int32)) dX6_findBest_40 (by decide) ?_
    cases hF
    exact aw_zret rfl (by decide) dX6_findBest_41 rfl rfl rfl
  · rw [if_pos c3] at hF
    refine aw_iconst (v := (0 : Int32)) dX6_findBest_20 (by decide) ?_
    cases hF
    exact aw_zret rfl (by decide) dX6_findBest_21 rfl rfl rfl
def fX6_readLeg (R : qR) (I : qI) (a0 : Nat) (p1 : Int32) (p2 : Int32) : Option (Int32) :=
  (R.1 a0 0).bind fun r1 =>
  (R.1 a0 8).bind fun r2 =>
  (qrd I R r2 p1).bind fun x3 =>
  (qra R r1 x3).bind fun r4 =>
  if p2 = (0 : Int32) then
    (some x3)
  else
  if p2 = (1 : Int32) then
    ((R.1 r4 2).bind fun r7 =>
    (R.1 a0 10).bind fun r8 =>
    (qrd I R r8 p1).bind fun x9 =>
    (qrd I R r7 x9).bind fun x10 =>
    some x10)
  else
  if p2 = (2 : Int32) then
    ((R.1 r4 2).bind fun r12 =>
    (R.1 a0 11).bind fun r13 =>
    (qrd I R r13 p1).bind fun x14 =>
    (qrd I R r12 x14).bind fun x15 =>
    some x15)
  else
  if p2 = (3 : Int32) then
    ((R.1 r4 4).bind fun r17 =>
    (R.1 a0 10).bind fun r18 =>
    (qrd I R r18 p1).bind fun x19 =>
    (qrd I R r17 x19).bind fun x20 =>
    some x20)
  else
  if p2 = (4 : Int32) then
    ((R.1 r4 3).bind fun r22 =>
    (R.1 a0 11).bind fun r23 =>
    (qrd I R r23 p1).bind fun x24 =>
    (qrd I R r22 x24).bind fun x25 =>
    some x25)
  else
  some (-1 : Int32)
set_option maxHeartbeats 4000000 in
set_option maxRecDepth 100000 in
theorem sX6_readLeg {l : Launch} {G : qG} {R : qR} {I : qI} {a0 : Nat} {p1 : Int32} {p2 : Int32} {rv : Int32} (hW : qWT R) (ha0 : qok R a0 6) (hF : fX6_readLeg R I a0 p1 p2 = some rv) : qMt l G mX6_readLeg 1 [.ref (G.1 + a0), .int p1, .int p2] I R (some (.int rv)) I R := by
  unfold fX6_readLeg at hF
  refine qMt_of (by decide) (Nat.le_of_ble_eq_true rfl) ⟨Nat.le_refl _, Nat.le_refl _⟩ ?_
  show AW _ 0 [(0, .ref (G.1 + a0)), (1, .int p1), (2, .int p2)] [] I R
  refine aw_aload_n dX6_readLeg_0 0 rfl rfl ?_
  obtain ⟨r1, er1, hF⟩ := qbind hF
  have kr1 : qok R r1 11 := hW.get ha0 er1 rfl
  refine aw_getr fl_X6_11 (by decide) fg_X6_0 ha0 er1 rfl dX6_readLeg_1 ?_
  refine aw_aload_n dX6_readLeg_4 0 rfl rfl ?_
  obtain ⟨r2, er2, hF⟩ := qbind hF
  have kr2 : qok R r2 9 := hW.get ha0 er2 rfl
  refine aw_getr fl_X6_24 (by decide) fg_X6_8 ha0 er2 rfl dX6_readLeg_5 ?_
  refine aw_iload_n dX6_readLeg_8 1 rfl rfl ?_
  obtain ⟨x3, ex3, hF⟩ := qbind hF
  refine aw_ialdq kr2 ex3 dX6_readLeg_9 ?_
  obtain ⟨r4, er4, hF⟩ := qbind hF
  have kr4 : qok R r4 5 := hW.elem kr1 er4
  refine aw_aaldq kr1 er4 dX6_readLeg_10 ?_
  refine aw_astore_n (lv' := [(3, .ref (G.1 + r4)), (0, .ref (G.1 + a0)), (1, .int p1), (2, .int p2)]) dX6_readLeg_11 rfl (Nat.le_of_ble_eq_true rfl) rfl ?_
  refine aw_iload_n dX6_readLeg_12 3 rfl rfl ?_
  by_cases c5 : p2 = (0 : Int32)
  · rw [if_pos c5] at hF
    refine aw_tableEq (tgt := 48) dX6_readLeg_13 c5 (by decide) (by decide) rfl (by decide) ?_
    refine aw_aload_n dX6_readLeg_48 1 rfl rfl ?_
    refine aw_getr fl_X6_24 (by decide) fg_X6_8 ha0 er2 rfl dX6_readLeg_49 ?_
    refine aw_iload_n dX6_readLeg_52 2 rfl rfl ?_
    refine aw_ialdq kr2 ex3 dX6_readLeg_53 ?_
    cases hF
    exact aw_iret rfl dX6_readLeg_54 rfl rfl rfl
  · rw [if_neg c5] at hF
    by_cases c6 : p2 = (1 : Int32)
    · rw [if_pos c6] at hF
      refine aw_tableEq (tgt := 55) dX6_readLeg_13 c6 (by decide) (by decide) rfl (by decide) ?_
      refine aw_aload_n dX6_readLeg_55 0 rfl rfl ?_
      obtain ⟨r7, er7, hF⟩ := qbind hF
      have kr7 : qok R r7 9 := hW.get kr4 er7 rfl
      refine aw_getr fl_X6_88 (by decide) fg_X5_2 kr4 er7 rfl dX6_readLeg_56 ?_
      refine aw_aload_n dX6_readLeg_59 1 rfl rfl ?_
      obtain ⟨r8, er8, hF⟩ := qbind hF
      have kr8 : qok R r8 9 := hW.get ha0 er8 rfl
      refine aw_getr fl_X6_30 (by decide) fg_X6_10 ha0 er8 rfl dX6_readLeg_60 ?_
      refine aw_iload_n dX6_readLeg_63 2 rfl rfl ?_
      obtain ⟨x9, ex9, hF⟩ := qbind hF
      refine aw_ialdq kr8 ex9 dX6_readLeg_64 ?_
      obtain ⟨x10, ex10, hF⟩ := qbind hF
      refine aw_ialdq kr7 ex10 dX6_readLeg_65 ?_
      cases hF
      exact aw_iret rfl dX6_readLeg_66 rfl rfl rfl
    · rw [if_neg c6] at hF
      by_cases c11 : p2 = (2 : Int32)
      · rw [if_pos c11] at hF
        refine aw_tableEq (tgt := 67) dX6_readLeg_13 c11 (by decide) (by decide) rfl (by decide) ?_
        refine aw_aload_n dX6_readLeg_67 0 rfl rfl ?_
        obtain ⟨r12, er12, hF⟩ := qbind hF
        have kr12 : qok R r12 9 := hW.get kr4 er12 rfl
        refine aw_getr fl_X6_88 (by decide) fg_X5_2 kr4 er12 rfl dX6_readLeg_68 ?_
        refine aw_aload_n dX6_readLeg_71 1 rfl rfl ?_
        obtain ⟨r13, er13, hF⟩ := qbind hF
        have kr13 : qok R r13 9 := hW.get ha0 er13 rfl
        refine aw_getr fl_X6_33 (by decide) fg_X6_11 ha0 er13 rfl dX6_readLeg_72 ?_
        refine aw_iload_n dX6_readLeg_75 2 rfl rfl ?_
        obtain ⟨x14, ex14, hF⟩ := qbind hF
        refine aw_ialdq kr13 ex14 dX6_readLeg_76 ?_
        obtain ⟨x15, ex15, hF⟩ := qbind hF
        refine aw_ialdq kr12 ex15 dX6_readLeg_77 ?_
        cases hF
        exact aw_iret rfl dX6_readLeg_78 rfl rfl rfl
      · rw [if_neg c11] at hF
        by_cases c16 : p2 = (3 : Int32)
        · rw [if_pos c16] at hF
          refine aw_tableEq (tgt := 79) dX6_readLeg_13 c16 (by decide) (by decide) rfl (by decide) ?_
          refine aw_aload_n dX6_readLeg_79 0 rfl rfl ?_
          obtain ⟨r17, er17, hF⟩ := qbind hF
          have kr17 : qok R r17 9 := hW.get kr4 er17 rfl
          refine aw_getr fl_X6_91 (by decide) fg_X5_4 kr4 er17 rfl dX6_readLeg_80 ?_
          refine aw_aload_n dX6_readLeg_83 1 rfl rfl ?_
          obtain ⟨r18, er18, hF⟩ := qbind hF
          have kr18 : qok R r18 9 := hW.get ha0 er18 rfl
          refine aw_getr fl_X6_30 (by decide) fg_X6_10 ha0 er18 rfl dX6_readLeg_84 ?_
          refine aw_iload_n dX6_readLeg_87 2 rfl rfl ?_
          obtain ⟨x19, ex19, hF⟩ := qbind hF
          refine aw_ialdq kr18 ex19 dX6_readLeg_88 ?_
          obtain ⟨x20, ex20, hF⟩ := qbind hF
          refine aw_ialdq kr17 ex20 dX6_readLeg_89 ?_
          cases hF
          exact aw_iret rfl dX6_readLeg_90 rfl rfl rfl
        · rw [if_neg c16] at hF
          by_cases c21 : p2 = (4 : Int32)
          · rw [if_pos c21] at hF
            refine aw_tableEq (tgt := 91) dX6_readLeg_13 c21 (by decide) (by decide) rfl (by decide) ?_
            refine aw_aload_n dX6_readLeg_91 0 rfl rfl ?_
            obtain ⟨r22, er22, hF⟩ := qbind hF
            have kr22 : qok R r22 9 := hW.get kr4 er22 rfl
            refine aw_getr fl_X6_94 (by decide) fg_X5_3 kr4 er22 rfl dX6_readLeg_92 ?_
            refine aw_aload_n dX6_readLeg_95 1 rfl rfl ?_
            obtain ⟨r23, er23, hF⟩ := qbind hF
            have kr23 : qok R r23 9 := hW.get ha0 er23 rfl
            refine aw_getr fl_X6_33 (by decide) fg_X6_11 ha0 er23 rfl dX6_readLeg_96 ?_
            refine aw_iload_n dX6_readLeg_99 2 rfl rfl ?_
            obtain ⟨x24, ex24, hF⟩ := qbind hF
            refine aw_ialdq kr23 ex24 dX6_readLeg_100 ?_
            obtain ⟨x25, ex25, hF⟩ := qbind hF
            refine aw_ialdq kr22 ex25 dX6_readLeg_101 ?_
            cases hF
            exact aw_iret rfl dX6_readLeg_102 rfl rfl rfl
          · rw [if_neg c21] at hF
            refine aw_tableOut (tgt := 103) dX6_readLeg_13 (qtout _ 4 (fun j hj => by
              match j, hj with
              | 0, _ => exact c5
              | 1, _ => exact c6
              | 2, _ => exact c11
              | 3, _ => exact c16
              | 4, _ => exact c21
              | j + 5, h => exact absurd h (by omega))) (by decide) ?_
            refine aw_iconst (v := (-1 : Int32)) dX6_readLeg_103 (by decide) ?_
            cases hF
            exact aw_iret rfl dX6_readLeg_104 rfl rfl rfl
def fX6_read (R : qR) (I : qI) (a0 : Nat) (p1 : Int32) : Option (Int32) :=
  if p1 = 0 then
    (some (I a0 6))
  else
    (if p1 = (1 : Int32) then
      (some (I a0 7))
    else
      (if p1 = (2 : Int32) then
        ((fX6_readLeg R I a0 (0 : Int32) (3 : Int32)).bind fun y7 =>
        some y7)
      else
        (if ((p1 / (10 : Int32)) - (1 : Int32)) < 0 then
          (some (-1 : Int32))
        else
          (if (I a0 7) ≤ ((p1 / (10 : Int32)) - (1 : Int32)) then
            (some (-1 : Int32))
          else
            ((fX6_readLeg R I a0 ((p1 / (10 : Int32)) - (1 : Int32)) (p1 - p1 / (10 : Int32) * (10 : Int32))).bind fun y6 =>
            some y6)))))
set_option maxHeartbeats 4000000 in
set_option maxRecDepth 100000 in
theorem sX6_read {l : Launch} {G : qG} {R : qR} {I : qI} {a0 : Nat} {p1 : Int32} {rv : Int32} (hW : qWT R) (ha0 : qok R a0 6) (hF : fX6_read R I a0 p1 = some rv) : qMt l G mX6_read 2 [.ref (G.1 + a0), .int p1] I R (some (.int rv)) I R := by
  unfold fX6_read at hF
  refine qMt_of (by decide) (Nat.le_of_ble_eq_true rfl) ⟨Nat.le_refl _, Nat.le_refl _⟩ ?_
  show AW _ 0 [(0, .ref (G.1 + a0)), (1, .int p1)] [] I R
  refine aw_iload_n dX6_read_0 1 rfl rfl ?_
  refine aw_if_ne (tgt := 9) dX6_read_1 (by decide) (fun c1 => ?_) (fun c1 => ?_)
  · rw [if_neg c1] at hF
    refine aw_iload_n dX6_read_9 1 rfl rfl ?_
    refine aw_iconst (v := (1 : Int32)) dX6_read_10 (by decide) ?_
    refine aw_icmp_ne (tgt := 19) dX6_read_11 (by decide) (fun c2 => ?_) (fun c2 => ?_)
    · rw [if_neg c2] at hF
      refine aw_iload_n dX6_read_19 1 rfl rfl ?_
      refine aw_iconst (v := (2 : Int32)) dX6_read_20 (by decide) ?_
      refine aw_icmp_ne (tgt := 31) dX6_read_21 (by decide) (fun c3 => ?_) (fun c3 => ?_)
      · rw [if_neg c3] at hF
        refine aw_iload_n dX6_read_31 1 rfl rfl ?_
        refine aw_bipush (v := (10 : Int32)) dX6_read_32 (by decide) ?_
        refine aw_idiv dX6_read_34 (by decide) ?_
        refine aw_iconst (v := (1 : Int32)) dX6_read_35 (by decide) ?_
        refine aw_isub dX6_read_36 ?_
        refine aw_istore_n (lv' := [(2, .int ((p1 / (10 : Int32)) - (1 : Int32))), (0, .ref (G.1 + a0)), (1, .int p1)]) dX6_read_37 rfl (Nat.le_of_ble_eq_true rfl) rfl ?_
        refine aw_iload_n dX6_read_38 0 rfl rfl ?_
        refine aw_if_lt (tgt := 62) dX6_read_39 (by decide) (fun c4 => ?_) (fun c4 => ?_)
        · rw [if_pos c4] at hF
          refine aw_iconst (v := (-1 : Int32)) dX6_read_62 (by decide) ?_
          cases hF
          exact aw_iret rfl dX6_read_63 rfl rfl rfl
        · rw [if_neg c4] at hF
          refine aw_iload_n dX6_read_42 0 rfl rfl ?_
          refine aw_aload_n dX6_read_43 1 rfl rfl ?_
          refine aw_geti fl_X6_72 (by decide) fg_X6_7 ha0 rfl dX6_read_44 ?_
          refine aw_icmp_ge (tgt := 62) dX6_read_47 (by decide) (fun c5 => ?_) (fun c5 => ?_)
          · rw [if_pos c5] at hF
            refine aw_iconst (v := (-1 : Int32)) dX6_read_62 (by decide) ?_
            cases hF
            exact aw_iret rfl dX6_read_63 rfl rfl rfl
          · rw [if_neg c5] at hF
            refine aw_aload_n dX6_read_50 1 rfl rfl ?_
            refine aw_iload_n dX6_read_51 0 rfl rfl ?_
            refine aw_iload_n dX6_read_52 2 rfl rfl ?_
            refine aw_bipush (v := (10 : Int32)) dX6_read_53 (by decide) ?_
            refine aw_irem dX6_read_55 (by decide) ?_
            obtain ⟨y6, ey6, hF⟩ := qbind hF
            refine aw_callVi (As := [.int ((p1 / (10 : Int32)) - (1 : Int32)), .int (p1 - p1 / (10 : Int32) * (10 : Int32))]) (sX6_readLeg hW ha0 ey6) cl_X6_75 rfl (qroomL (by decide) (by decide)) rfl ha0 (Nat.le_of_ble_eq_true rfl) dX6_read_56 rfl ?_
            refine aw_goto (tgt := 63) dX6_read_59 (by decide) ?_
            cases hF
            exact aw_iret rfl dX6_read_63 rfl rfl rfl
      · rw [if_pos c3] at hF
        refine aw_aload_n dX6_read_24 0 rfl rfl ?_
        refine aw_iconst (v := (0 : Int32)) dX6_read_25 (by decide) ?_
        refine aw_iconst (v := (3 : Int32)) dX6_read_26 (by decide) ?_
        obtain ⟨y7, ey7, hF⟩ := qbind hF
        refine aw_callVi (As := [.int (0 : Int32), .int (3 : Int32)]) (sX6_readLeg hW ha0 ey7) cl_X6_75 rfl (qroomL (by decide) (by decide)) rfl ha0 (Nat.le_of_ble_eq_true rfl) dX6_read_27 rfl ?_
        cases hF
        exact aw_iret rfl dX6_read_30 rfl rfl rfl
    · rw [if_pos c2] at hF
      refine aw_aload_n dX6_read_14 0 rfl rfl ?_
      refine aw_geti fl_X6_72 (by decide) fg_X6_7 ha0 rfl dX6_read_15 ?_
      cases hF
      exact aw_iret rfl dX6_read_18 rfl rfl rfl
  · rw [if_pos c1] at hF
    refine aw_aload_n dX6_read_4 0 rfl rfl ?_
    refine aw_geti fl_X6_56 (by decide) fg_X6_6 ha0 rfl dX6_read_5 ?_
    cases hF
    exact aw_iret rfl dX6_read_8 rfl rfl rfl
def cX6_insertMinute_5 (N : Nat) (R : qR) (b0 : Nat) (v1 : Int32) (v2 : Int32) (I : qI) : Option ((Int32 × qI) ⊕ (Int32 × qI)) :=
  if v2 ≤ 0 then
    (some (.inr (v2, I)))
  else
    ((R.1 b0 12).bind fun r2 =>
    (qrd I R r2 (v2 - (1 : Int32))).bind fun x3 =>
    if x3 ≤ v1 then
      (some (.inr (v2, I)))
    else
      ((qwr I R r2 v2 x3).bind fun I5 =>
      some (.inl ((v2 + (-1)), I5))))
set_option maxHeartbeats 4000000 in
set_option maxRecDepth 100000 in
theorem tX6_insertMinute_5 {l : Launch} {G : qG} {N : Nat} {R : qR} {As : List Value} {rv : Option Value} {I1 : qI} {b0 : Nat} {v1 : Int32} (hW : qWT R) (hb0 : qok R b0 6) {o : Int32 × qI} (hx : match o with | (z0, z1) => AW (Zm l G mX6_insertMinute 1 As R rv I1 R) 41 [(0, .ref (G.1 + b0)), (1, .int v1), (2, .int z0)] [] z1 R) : ∀ n s, qloop (fun s => cX6_insertMinute_5 N R b0 v1 s.1 s.2) n s = some o → (match s with | (v2, I) => AW (Zm l G mX6_insertMinute 1 As R rv I1 R) 5 [(0, .ref (G.1 + b0)), (1, .int v1), (2, .int v2)] [] I R) := by
  apply qloop_ind
  intro s x hF hc he
  obtain ⟨v2, I⟩ := s
  change cX6_insertMinute_5 N R b0 v1 v2 I = some x at hF
  unfold cX6_insertMinute_5 at hF
  show AW _ 5 [(0, .ref (G.1 + b0)), (1, .int v1), (2, .int v2)] [] I R
  refine aw_iload_n dX6_insertMinute_5 2 rfl rfl ?_
  refine aw_if_le (tgt := 41) dX6_insertMinute_6 (by decide) (fun c1 => ?_) (fun c1 => ?_)
  · rw [if_pos c1] at hF
    cases hF
    have hE := he _ rfl
    subst hE
    exact aw_sub [0, 1, 2] rfl hx
  · rw [if_neg c1] at hF
    refine aw_aload_n dX6_insertMinute_9 0 rfl rfl ?_
    obtain ⟨r2, er2, hF⟩ := qbind hF
    have kr2 : qok R r2 9 := hW.get hb0 er2 rfl
    refine aw_getr fl_X6_36 (by decide) fg_X6_12 hb0 er2 rfl dX6_insertMinute_10 ?_
    refine aw_iload_n dX6_insertMinute_13 2 rfl rfl ?_
    refine aw_iconst (v := (1 : Int32)) dX6_insertMinute_14 (by decide) ?_
    refine aw_isub dX6_insertMinute_15 ?_
    obtain ⟨x3, ex3, hF⟩ := qbind hF
    refine aw_ialdq kr2 ex3 dX6_insertMinute_16 ?_
    refine aw_iload_n dX6_insertMinute_17 1 rfl rfl ?_
    refine aw_icmp_le (tgt := 41) dX6_insertMinute_18 (by decide) (fun c4 => ?_) (fun c4 => ?_)
    · rw [if_pos c4] at hF
      cases hF
      have hE := he _ rfl
      subst hE
      exact aw_sub [0, 1, 2] rfl hx
    · rw [if_neg c4] at hF
      refine aw_aload_n dX6_insertMinute_21 0 rfl rfl ?_
      refine aw_getr fl_X6_36 (by decide) fg_X6_12 hb0 er2 rfl dX6_insertMinute_22 ?_
      refine aw_iload_n dX6_insertMinute_25 2 rfl rfl ?_
      refine aw_aload_n dX6_insertMinute_26 0 rfl rfl ?_
      refine aw_getr fl_X6_36 (by decide) fg_X6_12 hb0 er2 rfl dX6_insertMinute_27 ?_
      refine aw_iload_n dX6_insertMinute_30 2 rfl rfl ?_
      refine aw_iconst (v := (1 : Int32)) dX6_insertMinute_31 (by decide) ?_
      refine aw_isub dX6_insertMinute_32 ?_
      refine aw_ialdq kr2 ex3 dX6_insertMinute_33 ?_
      obtain ⟨I5, eI5, hF⟩ := qbind hF
      refine aw_iastq kr2 eI5 dX6_insertMinute_34 ?_
      refine aw_iinc (q := 2) (v := (v2 + (-1))) (lv' := [(2, .int (v2 + (-1))), (0, .ref (G.1 + b0)), (1, .int v1)]) dX6_insertMinute_35 rfl rfl (Nat.le_of_ble_eq_true rfl) rfl ?_
      refine aw_goto (tgt := 5) dX6_insertMinute_38 (by decide) ?_
      cases hF
      exact aw_sub [1, 2, 0] rfl (hc ((v2 + (-1)), I5) rfl)
def fX6_insertMinute (N : Nat) (R : qR) (I : qI) (a0 : Nat) (p1 : Int32) : Option (qI) :=
  (qloop (fun s => cX6_insertMinute_5 N R a0 p1 s.1 s.2) N ((I a0 13), I)).bind fun o6 =>
  (R.1 a0 12).bind fun r7 =>
  (qwr o6.2 R r7 o6.1 p1).bind fun I8 =>
  qlet (qup I8 a0 13 ((I8 a0 13) + (1 : Int32))) fun I9 =>
  some I9
set_option maxHeartbeats 4000000 in
set_option maxRecDepth 100000 in
theorem sX6_insertMinute {l : Launch} {G : qG} {N : Nat} {R : qR} {I : qI} {a0 : Nat} {p1 : Int32} {rI : qI} (hW : qWT R) (ha0 : qok R a0 6) (hF : fX6_insertMinute N R I a0 p1 = some rI) : qMt l G mX6_insertMinute 1 [.ref (G.1 + a0), .int p1] I R (none) rI R := by
  unfold fX6_insertMinute at hF
  refine qMt_of (by decide) (Nat.le_of_ble_eq_true rfl) ⟨Nat.le_refl _, Nat.le_refl _⟩ ?_
  show AW _ 0 [(0, .ref (G.1 + a0)), (1, .int p1)] [] I R
  refine aw_aload_n dX6_insertMinute_0 0 rfl rfl ?_
  refine aw_geti fl_X6_85 (by decide) fg_X6_13 ha0 rfl dX6_insertMinute_1 ?_
  refine aw_istore_n (lv' := [(2, .int (I a0 13)), (0, .ref (G.1 + a0)), (1, .int p1)]) dX6_insertMinute_4 rfl (Nat.le_of_ble_eq_true rfl) rfl ?_
  obtain ⟨o6, eo6, hF⟩ := qbind hF
  refine aw_sub [1, 2, 0] rfl (tX6_insertMinute_5 hW ha0 (o := o6) ?_ N ((I a0 13), I) eo6)
  show AW _ 41 [(0, .ref (G.1 + a0)), (1, .int p1), (2, .int o6.1)] [] o6.2 R
  refine aw_aload_n dX6_insertMinute_41 0 rfl rfl ?_
  obtain ⟨r7, er7, hF⟩ := qbind hF
  have kr7 : qok R r7 9 := hW.get ha0 er7 rfl
  refine aw_getr fl_X6_36 (by decide) fg_X6_12 ha0 er7 rfl dX6_insertMinute_42 ?_
  refine aw_iload_n dX6_insertMinute_45 2 rfl rfl ?_
  refine aw_iload_n dX6_insertMinute_46 1 rfl rfl ?_
  obtain ⟨I8, eI8, hF⟩ := qbind hF
  refine aw_iastq kr7 eI8 dX6_insertMinute_47 ?_
  refine aw_aload_n dX6_insertMinute_48 0 rfl rfl ?_
  refine aw_dup dX6_insertMinute_49 rfl ?_
  refine aw_geti fl_X6_85 (by decide) fg_X6_13 ha0 rfl dX6_insertMinute_50 ?_
  refine aw_iconst (v := (1 : Int32)) dX6_insertMinute_53 (by decide) ?_
  refine aw_iadd dX6_insertMinute_54 ?_
  obtain ⟨I9, eI9, hF⟩ := qletE hF
  refine aw_putiq fl_X6_85 (by decide) fs_X6_13 fn_X6_13 ft_X6_13 ha0 eI9 rfl dX6_insertMinute_55 ?_
  cases hF
  exact aw_vret rfl dX6_insertMinute_58 rfl rfl rfl
