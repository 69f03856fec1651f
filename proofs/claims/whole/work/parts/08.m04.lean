def cX2_readStops_37 (N : Nat) (R : qR) (b0 : Nat) (b1 : Nat) (v3 : Int32) (v4 : Int32) (I : qI) : Option ((Int32 × qI) ⊕ (qI)) :=
  if v4 < 0 then
    (some (.inr I))
  else
    ((R.1 b0 5).bind fun r6 =>
    (R.1 b1 2).bind fun r7 =>
    (qrd I R r7 v4).bind fun x8 =>
    (qwr I R r6 (v3 + v4) x8).bind fun I9 =>
    (R.1 b0 6).bind fun r10 =>
    (qrd I9 R r10 ((v3 + v4) + (1 : Int32))).bind fun x11 =>
    (qrd I9 R r7 v4).bind fun x12 =>
    (qwr I9 R r10 (v3 + v4) (x11 ||| ((1 : Int32) <<< (x12 &&& 31)))).bind fun I13 =>
    some (.inl ((v4 + (-1)), I13)))
set_option maxHeartbeats 4000000 in
set_option maxRecDepth 100000 in
theorem tX2_readStops_37 {l : Launch} {G : qG} {N : Nat} {R : qR} {As : List Value} {rv : Option Value} {I1 : qI} {b0 : Nat} {b1 : Nat} {v3 : Int32} (hW : qWT R) (hb0 : qok R b0 2) (hb1 : qok R b1 5) {o : qI} (hx : AW (Zm l G mX2_readStops 1 As R rv I1 R) 94 [] [] o R) : ∀ n s, qloop (fun s => cX2_readStops_37 N R b0 b1 v3 s.1 s.2) n s = some o → (match s with | (v4, I) => AW (Zm l G mX2_readStops 1 As R rv I1 R) 37 [(0, .ref (G.1 + b0)), (1, .ref (G.1 + b1)), (3, .int v3), (4, .int v4)] [] I R) := by
  apply qloop_ind
  intro s x hF hc he
  obtain ⟨v4, I⟩ := s
  change cX2_readStops_37 N R b0 b1 v3 v4 I = some x at hF
  unfold cX2_readStops_37 at hF
  show AW _ 37 [(0, .ref (G.1 + b0)), (1, .ref (G.1 + b1)), (3, .int v3), (4, .int v4)] [] I R
  refine aw_iload dX2_readStops_37 3 rfl ?_
  refine aw_if_lt (tgt := 94) dX2_readStops_39 (by decide) (fun c5 => ?_) (fun c5 => ?_)
  · rw [if_pos c5] at hF
    cases hF
    have hE := he _ rfl
    subst hE
    exact aw_sub [] rfl hx
  · rw [if_neg c5] at hF
    refine aw_aload_n dX2_readStops_42 0 rfl rfl ?_
    obtain ⟨r6, er6, hF⟩ := qbind hF
    have kr6 : qok R r6 9 := hW.get hb0 er6 rfl
    refine aw_getr fl_X2_15 (by decide) fg_X2_5 hb0 er6 rfl dX2_readStops_43 ?_
    refine aw_iload_n dX2_readStops_46 2 rfl rfl ?_
    refine aw_iload dX2_readStops_47 3 rfl ?_
    refine aw_iadd dX2_readStops_49 ?_
    refine aw_aload_n dX2_readStops_50 1 rfl rfl ?_
    obtain ⟨r7, er7, hF⟩ := qbind hF
    have kr7 : qok R r7 9 := hW.get hb1 er7 rfl
    refine aw_getr fl_X2_77 (by decide) fg_X5_2 hb1 er7 rfl dX2_readStops_51 ?_
    refine aw_iload dX2_readStops_54 3 rfl ?_
    obtain ⟨x8, ex8, hF⟩ := qbind hF
    refine aw_ialdq kr7 ex8 dX2_readStops_56 ?_
    obtain ⟨I9, eI9, hF⟩ := qbind hF
    refine aw_iastq kr6 eI9 dX2_readStops_57 ?_
    refine aw_aload_n dX2_readStops_58 0 rfl rfl ?_
    obtain ⟨r10, er10, hF⟩ := qbind hF
    have kr10 : qok R r10 9 := hW.get hb0 er10 rfl
    refine aw_getr fl_X2_18 (by decide) fg_X2_6 hb0 er10 rfl dX2_readStops_59 ?_
    refine aw_iload_n dX2_readStops_62 2 rfl rfl ?_
    refine aw_iload dX2_readStops_63 3 rfl ?_
    refine aw_iadd dX2_readStops_65 ?_
    refine aw_aload_n dX2_readStops_66 0 rfl rfl ?_
    refine aw_getr fl_X2_18 (by decide) fg_X2_6 hb0 er10 rfl dX2_readStops_67 ?_
    refine aw_iload_n dX2_readStops_70 2 rfl rfl ?_
    refine aw_iload dX2_readStops_71 3 rfl ?_
    refine aw_iadd dX2_readStops_73 ?_
    refine aw_iconst (v := (1 : Int32)) dX2_readStops_74 (by decide) ?_
    refine aw_iadd dX2_readStops_75 ?_
    obtain ⟨x11, ex11, hF⟩ := qbind hF
    refine aw_ialdq kr10 ex11 dX2_readStops_76 ?_
    refine aw_iconst (v := (1 : Int32)) dX2_readStops_77 (by decide) ?_
    refine aw_aload_n dX2_readStops_78 1 rfl rfl ?_
    refine aw_getr fl_X2_77 (by decide) fg_X5_2 hb1 er7 rfl dX2_readStops_79 ?_
    refine aw_iload dX2_readStops_82 3 rfl ?_
    obtain ⟨x12, ex12, hF⟩ := qbind hF
    refine aw_ialdq kr7 ex12 dX2_readStops_84 ?_
    refine aw_ishl dX2_readStops_85 ?_
    refine aw_ior dX2_readStops_86 ?_
    obtain ⟨I13, eI13, hF⟩ := qbind hF
    refine aw_iastq kr10 eI13 dX2_readStops_87 ?_
    refine aw_iinc (q := 3) (v := (v4 + (-1))) (lv' := [(4, .int (v4 + (-1))), (0, .ref (G.1 + b0)), (1, .ref (G.1 + b1)), (3, .int v3)]) dX2_readStops_88 rfl rfl (Nat.le_of_ble_eq_true rfl) rfl ?_
    refine aw_goto (tgt := 37) dX2_readStops_91 (by decide) ?_
    cases hF
    exact aw_sub [1, 2, 3, 0] rfl (hc ((v4 + (-1)), I13) rfl)
def fX2_readStops (N : Nat) (R : qR) (I : qI) (a0 : Nat) (a1 : Nat) (p2 : Int32) : Option (qI) :=
  (R.1 a0 5).bind fun r1 =>
  (qwr I R r1 ((p2 * (8 : Int32)) + (I a1 1)) (-1 : Int32)).bind fun I2 =>
  (R.1 a0 6).bind fun r3 =>
  (qwr I2 R r3 ((p2 * (8 : Int32)) + (I2 a1 1)) (0 : Int32)).bind fun I4 =>
  (qloop (fun s => cX2_readStops_37 N R a0 a1 (p2 * (8 : Int32)) s.1 s.2) N (((I4 a1 1) - (1 : Int32)), I4)).bind fun o14 =>
  some o14
set_option maxHeartbeats 4000000 in
set_option maxRecDepth 100000 in
theorem sX2_readStops {l : Launch} {G : qG} {N : Nat} {R : qR} {I : qI} {a0 : Nat} {a1 : Nat} {p2 : Int32} {rI : qI} (hW : qWT R) (ha0 : qok R a0 2) (ha1 : qok R a1 5) (hF : fX2_readStops N R I a0 a1 p2 = some rI) : qMt l G mX2_readStops 1 [.ref (G.1 + a0), .ref (G.1 + a1), .int p2] I R (none) rI R := by
  unfold fX2_readStops at hF
  refine qMt_of (by decide) (Nat.le_of_ble_eq_true rfl) ⟨Nat.le_refl _, Nat.le_refl _⟩ ?_
  show AW _ 0 [(0, .ref (G.1 + a0)), (1, .ref (G.1 + a1)), (2, .int p2)] [] I R
  refine aw_iload_n dX2_readStops_0 2 rfl rfl ?_
  refine aw_bipush (v := (8 : Int32)) dX2_readStops_1 (by decide) ?_
  refine aw_imul dX2_readStops_3 ?_
  refine aw_istore_n (lv' := [(3, .int (p2 * (8 : Int32))), (0, .ref (G.1 + a0)), (1, .ref (G.1 + a1)), (2, .int p2)]) dX2_readStops_4 rfl (Nat.le_of_ble_eq_true rfl) rfl ?_
  refine aw_aload_n dX2_readStops_5 1 rfl rfl ?_
  obtain ⟨r1, er1, hF⟩ := qbind hF
  have kr1 : qok R r1 9 := hW.get ha0 er1 rfl
  refine aw_getr fl_X2_15 (by decide) fg_X2_5 ha0 er1 rfl dX2_readStops_6 ?_
  refine aw_iload_n dX2_readStops_9 0 rfl rfl ?_
  refine aw_aload_n dX2_readStops_10 2 rfl rfl ?_
  refine aw_geti fl_X2_31 (by decide) fg_X5_1 ha1 rfl dX2_readStops_11 ?_
  refine aw_iadd dX2_readStops_14 ?_
  refine aw_iconst (v := (-1 : Int32)) dX2_readStops_15 (by decide) ?_
  obtain ⟨I2, eI2, hF⟩ := qbind hF
  refine aw_iastq kr1 eI2 dX2_readStops_16 ?_
  refine aw_aload_n dX2_readStops_17 1 rfl rfl ?_
  obtain ⟨r3, er3, hF⟩ := qbind hF
  have kr3 : qok R r3 9 := hW.get ha0 er3 rfl
  refine aw_getr fl_X2_18 (by decide) fg_X2_6 ha0 er3 rfl dX2_readStops_18 ?_
  refine aw_iload_n dX2_readStops_21 0 rfl rfl ?_
  refine aw_aload_n dX2_readStops_22 2 rfl rfl ?_
  refine aw_geti fl_X2_31 (by decide) fg_X5_1 ha1 rfl dX2_readStops_23 ?_
  refine aw_iadd dX2_readStops_26 ?_
  refine aw_iconst (v := (0 : Int32)) dX2_readStops_27 (by decide) ?_
  obtain ⟨I4, eI4, hF⟩ := qbind hF
  refine aw_iastq kr3 eI4 dX2_readStops_28 ?_
  refine aw_aload_n dX2_readStops_29 2 rfl rfl ?_
  refine aw_geti fl_X2_31 (by decide) fg_X5_1 ha1 rfl dX2_readStops_30 ?_
  refine aw_iconst (v := (1 : Int32)) dX2_readStops_33 (by decide) ?_
  refine aw_isub dX2_readStops_34 ?_
  refine aw_istore (lv' := [(4, .int ((I4 a1 1) - (1 : Int32))), (3, .int (p2 * (8 : Int32))), (0, .ref (G.1 + a0)), (1, .ref (G.1 + a1)), (2, .int p2)]) dX2_readStops_35 (Nat.le_of_ble_eq_true rfl) rfl ?_
  obtain ⟨o14, eo14, hF⟩ := qbind hF
  refine aw_sub [2, 3, 1, 0] rfl (tX2_readStops_37 hW ha0 ha1 (o := o14) ?_ N (((I4 a1 1) - (1 : Int32)), I4) eo14)
  show AW _ 94 [] [] o14 R
  cases hF
  exact aw_vret rfl dX2_readStops_94 rfl rfl rfl
def cX2_nextStations_4 (N : Nat) (R : qR) (I : qI) (b0 : Nat) (v1 : Int32) (v2 : Int32) (v3 : Int32) : Option ((Int32 × Int32) ⊕ (Int32)) :=
  if (I b0 2) ≤ v3 then
    (some (.inr v2))
  else
    ((R.1 b0 5).bind fun r2 =>
    (fX2_placeOf R I b0 v1 v3).bind fun y3 =>
    (qrd I R r2 y3).bind fun x4 =>
    if x4 = (-1 : Int32) then
      (some (.inl (v2, (v3 + 1))))
    else
      (some (.inl ((v2 ||| ((1 : Int32) <<< (x4 &&& 31))), (v3 + 1)))))
set_option maxHeartbeats 4000000 in
set_option maxRecDepth 100000 in
theorem tX2_nextStations_4 {l : Launch} {G : qG} {N : Nat} {R : qR} {I : qI} {As : List Value} {rv : Option Value} {b0 : Nat} {v1 : Int32} (hW : qWT R) (hb0 : qok R b0 2) {o : Int32} (hx : AW (Zm l G mX2_nextStations 2 As R rv I R) 44 [(2, .int o)] [] I R) : ∀ n s, qloop (fun s => cX2_nextStations_4 N R I b0 v1 s.1 s.2) n s = some o → (match s with | (v2, v3) => AW (Zm l G mX2_nextStations 2 As R rv I R) 4 [(0, .ref (G.1 + b0)), (1, .int v1), (2, .int v2), (3, .int v3)] [] I R) := by
  apply qloop_ind
  intro s x hF hc he
  obtain ⟨v2, v3⟩ := s
  change cX2_nextStations_4 N R I b0 v1 v2 v3 = some x at hF
  unfold cX2_nextStations_4 at hF
  show AW _ 4 [(0, .ref (G.1 + b0)), (1, .int v1), (2, .int v2), (3, .int v3)] [] I R
  refine aw_iload_n dX2_nextStations_4 3 rfl rfl ?_
  refine aw_aload_n dX2_nextStations_5 0 rfl rfl ?_
  refine aw_geti fl_X2_62 (by decide) fg_X2_2 hb0 rfl dX2_nextStations_6 ?_
  refine aw_icmp_ge (tgt := 44) dX2_nextStations_9 (by decide) (fun c1 => ?_) (fun c1 => ?_)
  · rw [if_pos c1] at hF
    cases hF
    have hE := he _ rfl
    subst hE
    exact aw_sub [2] rfl hx
  · rw [if_neg c1] at hF
    refine aw_aload_n dX2_nextStations_12 0 rfl rfl ?_
    obtain ⟨r2, er2, hF⟩ := qbind hF
    have kr2 : qok R r2 9 := hW.get hb0 er2 rfl
    refine aw_getr fl_X2_15 (by decide) fg_X2_5 hb0 er2 rfl dX2_nextStations_13 ?_
    refine aw_aload_n dX2_nextStations_16 0 rfl rfl ?_
    refine aw_iload_n dX2_nextStations_17 1 rfl rfl ?_
    refine aw_iload_n dX2_nextStations_18 3 rfl rfl ?_
    obtain ⟨y3, ey3, hF⟩ := qbind hF
    refine aw_callVi (As := [.int v1, .int v3]) (sX2_placeOf hW hb0 ey3) cl_X2_98 rfl (qroomL (by decide) (by decide)) rfl hb0 (Nat.le_of_ble_eq_true rfl) dX2_nextStations_19 rfl ?_
    obtain ⟨x4, ex4, hF⟩ := qbind hF
    refine aw_ialdq kr2 ex4 dX2_nextStations_22 ?_
    refine aw_istore (lv' := [(4, .int x4), (0, .ref (G.1 + b0)), (1, .int v1), (2, .int v2), (3, .int v3)]) dX2_nextStations_23 (Nat.le_of_ble_eq_true rfl) rfl ?_
    refine aw_iload dX2_nextStations_25 0 rfl ?_
    refine aw_iconst (v := (-1 : Int32)) dX2_nextStations_27 (by decide) ?_
    refine aw_icmp_eq (tgt := 38) dX2_nextStations_28 (by decide) (fun c5 => ?_) (fun c5 => ?_)
    · rw [if_pos c5] at hF
      refine aw_iinc (q := 4) (v := (v3 + 1)) (lv' := [(3, .int (v3 + 1)), (4, .int x4), (0, .ref (G.1 + b0)), (1, .int v1), (2, .int v2)]) dX2_nextStations_38 rfl rfl (Nat.le_of_ble_eq_true rfl) rfl ?_
      refine aw_goto (tgt := 4) dX2_nextStations_41 (by decide) ?_
      cases hF
      exact aw_sub [2, 3, 4, 0] rfl (hc (v2, (v3 + 1)) rfl)
    · rw [if_neg c5] at hF
      refine aw_iload_n dX2_nextStations_31 3 rfl rfl ?_
      refine aw_iconst (v := (1 : Int32)) dX2_nextStations_32 (by decide) ?_
      refine aw_iload dX2_nextStations_33 0 rfl ?_
      refine aw_ishl dX2_nextStations_35 ?_
      refine aw_ior dX2_nextStations_36 ?_
      refine aw_istore_n (lv' := [(2, .int (v2 ||| ((1 : Int32) <<< (x4 &&& 31)))), (4, .int x4), (0, .ref (G.1 + b0)), (1, .int v1), (3, .int v3)]) dX2_nextStations_37 rfl (Nat.le_of_ble_eq_true rfl) rfl ?_
      refine aw_iinc (q := 4) (v := (v3 + 1)) (lv' := [(3, .int (v3 + 1)), (2, .int (v2 ||| ((1 : Int32) <<< (x4 &&& 31)))), (4, .int x4), (0, .ref (G.1 + b0)), (1, .int v1)]) dX2_nextStations_38 rfl rfl (Nat.le_of_ble_eq_true rfl) rfl ?_
      refine aw_goto (tgt := 4) dX2_nextStations_41 (by decide) ?_
      cases hF
      exact aw_sub [3, 4, 1, 0] rfl (hc ((v2 ||| ((1 : Int32) <<< (x4 &&& 31))), (v3 + 1)) rfl)
def fX2_nextStations (N : Nat) (R : qR) (I : qI) (a0 : Nat) (p1 : Int32) : Option (Int32) :=
  (qloop (fun s => cX2_nextStations_4 N R I a0 p1 s.1 s.2) N ((0 : Int32), (0 : Int32))).bind fun o6 =>
  some o6
set_option maxHeartbeats 4000000 in
set_option maxRecDepth 100000 in
theorem sX2_nextStations {l : Launch} {G : qG} {N : Nat} {R : qR} {I : qI} {a0 : Nat} {p1 : Int32} {rv : Int32} (hW : qWT R) (ha0 : qok R a0 2) (hF : fX2_nextStations N R I a0 p1 = some rv) : qMt l G mX2_nextStations 2 [.ref (G.1 + a0), .int p1] I R (some (.int rv)) I R := by
  unfold fX2_nextStations at hF
  refine qMt_of (by decide) (Nat.le_of_ble_eq_true rfl) ⟨Nat.le_refl _, Nat.le_refl _⟩ ?_
  show AW _ 0 [(0, .ref (G.1 + a0)), (1, .int p1)] [] I R
  refine aw_iconst (v := (0 : Int32)) dX2_nextStations_0 (by decide) ?_
  refine aw_istore_n (lv' := [(2, .int (0 : Int32)), (0, .ref (G.1 + a0)), (1, .int p1)]) dX2_nextStations_1 rfl (Nat.le_of_ble_eq_true rfl) rfl ?_
  refine aw_iconst (v := (0 : Int32)) dX2_nextStations_2 (by decide) ?_
  refine aw_istore_n (lv' := [(3, .int (0 : Int32)), (2, .int (0 : Int32)), (0, .ref (G.1 + a0)), (1, .int p1)]) dX2_nextStations_3 rfl (Nat.le_of_ble_eq_true rfl) rfl ?_
  obtain ⟨o6, eo6, hF⟩ := qbind hF
  refine aw_sub [2, 3, 1, 0] rfl (tX2_nextStations_4 hW ha0 (o := o6) ?_ N ((0 : Int32), (0 : Int32)) eo6)
  show AW _ 44 [(2, .int o6)] [] I R
  refine aw_iload_n dX2_nextStations_44 0 rfl rfl ?_
  cases hF
  exact aw_iret rfl dX2_nextStations_45 rfl rfl rfl
def cX2_passed_5 (N : Nat) (R : qR) (I : qI) (b0 : Nat) (v1 : Int32) (v2 : Int32) (v3 : Int32) (v4 : Int32) : Option ((Int32 × Int32) ⊕ (Int32)) :=
  if (I b0 2) ≤ v4 then
    (some (.inr v3))
  else
    ((R.1 b0 5).bind fun r2 =>
    (fX2_placeOf R I b0 v1 v4).bind fun y3 =>
    (qrd I R r2 y3).bind fun x4 =>
    if x4 = v2 then
      (some (.inl ((v3 + ((1 : Int32) <<< (((3 : Int32) * v4) &&& 31))), (v4 + 1))))
    else
      (some (.inl (v3, (v4 + 1)))))
set_option maxHeartbeats 4000000 in
set_option maxRecDepth 100000 in
theorem tX2_passed_5 {l : Launch} {G : qG} {N : Nat} {R : qR} {I : qI} {As : List Value} {rv : Option Value} {b0 : Nat} {v1 : Int32} {v2 : Int32} (hW : qWT R) (hb0 : qok R b0 2) {o : Int32} (hx : AW (Zm l G mX2_passed 2 As R rv I R) 45 [(3, .int o)] [] I R) : ∀ n s, qloop (fun s => cX2_passed_5 N R I b0 v1 v2 s.1 s.2) n s = some o → (match s with | (v3, v4) => AW (Zm l G mX2_passed 2 As R rv I R) 5 [(0, .ref (G.1 + b0)), (1, .int v1), (2, .int v2), (3, .int v3), (4, .int v4)] [] I R) := by
  apply qloop_ind
  intro s x hF hc he
  obtain ⟨v3, v4⟩ := s
  change cX2_passed_5 N R I b0 v1 v2 v3 v4 = some x at hF
  unfold cX2_passed_5 at hF
  show AW _ 5 [(0, .ref (G.1 + b0)), (1, .int v1), (2, .int v2), (3, .int v3), (4, .int v4)] [] I R
  refine aw_iload dX2_passed_5 4 rfl ?_
  refine aw_aload_n dX2_passed_7 0 rfl rfl ?_
  refine aw_geti fl_X2_62 (by decide) fg_X2_2 hb0 rfl dX2_passed_8 ?_
  refine aw_icmp_ge (tgt := 45) dX2_passed_11 (by decide) (fun c1 => ?_) (fun c1 => ?_)
  · rw [if_pos c1] at hF
    cases hF
    have hE := he _ rfl
    subst hE
    exact aw_sub [3] rfl hx
  · rw [if_neg c1] at hF
    refine aw_aload_n dX2_passed_14 0 rfl rfl ?_
    obtain ⟨r2, er2, hF⟩ := qbind hF
    have kr2 : qok R r2 9 := hW.get hb0 er2 rfl
    refine aw_getr fl_X2_15 (by decide) fg_X2_5 hb0 er2 rfl dX2_passed_15 ?_
    refine aw_aload_n dX2_passed_18 0 rfl rfl ?_
    refine aw_iload_n dX2_passed_19 1 rfl rfl ?_
    refine aw_iload dX2_passed_20 4 rfl ?_
    obtain ⟨y3, ey3, hF⟩ := qbind hF
    refine aw_callVi (As := [.int v1, .int v4]) (sX2_placeOf hW hb0 ey3) cl_X2_98 rfl (qroomL (by decide) (by decide)) rfl hb0 (Nat.le_of_ble_eq_true rfl) dX2_passed_22 rfl ?_
    obtain ⟨x4, ex4, hF⟩ := qbind hF
    refine aw_ialdq kr2 ex4 dX2_passed_25 ?_
    refine aw_iload_n dX2_passed_26 2 rfl rfl ?_
    refine aw_icmp_ne (tgt := 39) dX2_passed_27 (by decide) (fun c5 => ?_) (fun c5 => ?_)
    · rw [if_neg c5] at hF
      refine aw_iinc (q := 4) (v := (v4 + 1)) (lv' := [(4, .int (v4 + 1)), (0, .ref (G.1 + b0)), (1, .int v1), (2, .int v2), (3, .int v3)]) dX2_passed_39 rfl rfl (Nat.le_of_ble_eq_true rfl) rfl ?_
      refine aw_goto (tgt := 5) dX2_passed_42 (by decide) ?_
      cases hF
      exact aw_sub [1, 2, 3, 4, 0] rfl (hc (v3, (v4 + 1)) rfl)
    · rw [if_pos c5] at hF
      refine aw_iload_n dX2_passed_30 3 rfl rfl ?_
      refine aw_iconst (v := (1 : Int32)) dX2_passed_31 (by decide) ?_
      refine aw_iconst (v := (3 : Int32)) dX2_passed_32 (by decide) ?_
      refine aw_iload dX2_passed_33 4 rfl ?_
      refine aw_imul dX2_passed_35 ?_
      refine aw_ishl dX2_passed_36 ?_
      refine aw_iadd dX2_passed_37 ?_
      refine aw_istore_n (lv' := [(3, .int (v3 + ((1 : Int32) <<< (((3 : Int32) * v4) &&& 31)))), (0, .ref (G.1 + b0)), (1, .int v1), (2, .int v2), (4, .int v4)]) dX2_passed_38 rfl (Nat.le_of_ble_eq_true rfl) rfl ?_
      refine aw_iinc (q := 4) (v := (v4 + 1)) (lv' := [(4, .int (v4 + 1)), (3, .int (v3 + ((1 : Int32) <<< (((3 : Int32) * v4) &&& 31)))), (0, .ref (G.1 + b0)), (1, .int v1), (2, .int v2)]) dX2_passed_39 rfl rfl (Nat.le_of_ble_eq_true rfl) rfl ?_
      refine aw_goto (tgt := 5) dX2_passed_42 (by decide) ?_
      cases hF
      exact aw_sub [2, 3, 4, 1, 0] rfl (hc ((v3 + ((1 : Int32) <<< (((3 : Int32) * v4) &&& 31))), (v4 + 1)) rfl)
def fX2_passed (N : Nat) (R : qR) (I : qI) (a0 : Nat) (p1 : Int32) (p2 : Int32) : Option (Int32) :=
  (qloop (fun s => cX2_passed_5 N R I a0 p1 p2 s.1 s.2) N (p1, (0 : Int32))).bind fun o6 =>
  some o6
set_option maxHeartbeats 4000000 in
set_option maxRecDepth 100000 in
theorem sX2_passed {l : Launch} {G : qG} {N : Nat} {R : qR} {I : qI} {a0 : Nat} {p1 : Int32} {p2 : Int32} {rv : Int32} (hW : qWT R) (ha0 : qok R a0 2) (hF : fX2_passed N R I a0 p1 p2 = some rv) : qMt l G mX2_passed 2 [.ref (G.1 + a0), .int p1, .int p2] I R (some (.int rv)) I R := by
  unfold fX2_passed at hF
  refine qMt_of (by decide) (Nat.le_of_ble_eq_true rfl) ⟨Nat.le_refl _, Nat.le_refl _⟩ ?_
  show AW _ 0 [(0, .ref (G.1 + a0)), (1, .int p1), (2, .int p2)] [] I R
  refine aw_iload_n dX2_passed_0 1 rfl rfl ?_
  refine aw_istore_n (lv' := [(3, .int p1), (0, .ref (G.1 + a0)), (1, .int p1), (2, .int p2)]) dX2_passed_1 rfl (Nat.le_of_ble_eq_true rfl) rfl ?_
  refine aw_iconst (v := (0 : Int32)) dX2_passed_2 (by decide) ?_
  refine aw_istore (lv' := [(4, .int (0 : Int32)), (3, .int p1), (0, .ref (G.1 + a0)), (1, .int p1), (2, .int p2)]) dX2_passed_3 (Nat.le_of_ble_eq_true rfl) rfl ?_
  obtain ⟨o6, eo6, hF⟩ := qbind hF
  refine aw_sub [2, 3, 4, 1, 0] rfl (tX2_passed_5 hW ha0 (o := o6) ?_ N (p1, (0 : Int32)) eo6)
  show AW _ 45 [(3, .int o6)] [] I R
  refine aw_iload_n dX2_passed_45 0 rfl rfl ?_
  cases hF
  exact aw_iret rfl dX2_passed_46 rfl rfl rfl
def cX2_reach_34 (N : Nat) (rec : qR → qI → Nat → Int32 → Int32 → Option (Int32 × qI)) (R : qR) (b0 : Nat) (v1 : Int32) (v2 : Int32) (v3 : Int32) (v4 : Int32) (I : qI) : Option ((Int32 × qI) ⊕ ((qI) ⊕ (Int32 × qI))) :=
  if (12 : Int32) ≤ v4 then
    (some (.inr (.inl I)))
  else
    (if ((v3 >>> (v4 &&& 31)) &&& (1 : Int32)) = 0 then
      (some (.inl ((v4 + 1), I)))
    else
      ((fX2_passed N R I b0 v1 v4).bind fun y8 =>
      (rec R I b0 y8 (v2 - (1 : Int32))).bind fun y9 =>
      if y9.1 = 0 then
        (some (.inl ((v4 + 1), y9.2)))
      else
        ((R.1 b0 1).bind fun r11 =>
        (qwr y9.2 R r11 ((y9.2 b0 0) - v2) v4).bind fun I12 =>
        some (.inr (.inr ((1 : Int32), I12))))))
set_option maxHeartbeats 4000000 in
set_option maxRecDepth 100000 in
theorem tX2_reach_34 {l : Launch} {G : qG} {N : Nat} {rec : qR → qI → Nat → Int32 → Int32 → Option (Int32 × qI)} {k : Nat} {R : qR} {As : List Value} {rv : Option Value} {I1 : qI} {b0 : Nat} {v1 : Int32} {v2 : Int32} {v3 : Int32} (hW : qWT R) (hrec : ∀ (I : qI) (a : Nat) (x y : Int32) (r : Int32 × qI), qok R a 2 → rec R I a x y = some r → qMt l G mX2_reach (k + 4) [.ref (G.1 + a), .int x, .int y] I R (some (.int r.1)) r.2 R) (hb0 : qok R b0 2) {o : (qI) ⊕ (Int32 × qI)} (hx : match o with | .inl z0 => AW (Zm l G mX2_reach (k + 5) As R rv I1 R) 88 [(0, .ref (G.1 + b0)), (1, .int v1), (2, .int v2)] [] z0 R | .inr (rrv, rrI) => rv = some (.int rrv) ∧ I1 = rrI) : ∀ n s, qloop (fun s => cX2_reach_34 N rec R b0 v1 v2 v3 s.1 s.2) n s = some o → (match s with | (v4, I) => AW (Zm l G mX2_reach (k + 5) As R rv I1 R) 34 [(0, .ref (G.1 + b0)), (1, .int v1), (2, .int v2), (3, .int v3), (4, .int v4)] [] I R) := by
  apply qloop_ind
  intro s x hF hc he
  obtain ⟨v4, I⟩ := s
  change cX2_reach_34 N rec R b0 v1 v2 v3 v4 I = some x at hF
  unfold cX2_reach_34 at hF
  show AW _ 34 [(0, .ref (G.1 + b0)), (1, .int v1), (2, .int v2), (3, .int v3), (4, .int v4)] [] I R
  refine aw_iload dX2_reach_34 4 rfl ?_
  refine aw_bipush (v := (12 : Int32)) dX2_reach_36 (by decide) ?_
  refine aw_icmp_ge (tgt := 88) dX2_reach_38 (by decide) (fun c6 => ?_) (fun c6 => ?_)
  · rw [if_pos c6] at hF
    cases hF
    have hE := he _ rfl
    subst hE
    exact aw_sub [0, 1, 2] rfl hx
  · rw [if_neg c6] at hF
    refine aw_iload_n dX2_reach_41 3 rfl rfl ?_
    refine aw_iload dX2_reach_42 4 rfl ?_
    refine aw_ishr dX2_reach_44 ?_
    refine aw_iconst (v := (1 : Int32)) dX2_reach_45 (by decide) ?_
    refine aw_iand dX2_reach_46 ?_
    refine aw_if_eq (tgt := 82) dX2_reach_47 (by decide) (fun c7 => ?_) (fun c7 => ?_)
    · rw [if_pos c7] at hF
      refine aw_iinc (q := 4) (v := (v4 + 1)) (lv' := [(4, .int (v4 + 1)), (0, .ref (G.1 + b0)), (1, .int v1), (2, .int v2), (3, .int v3)]) dX2_reach_82 rfl rfl (Nat.le_of_ble_eq_true rfl) rfl ?_
      refine aw_goto (tgt := 34) dX2_reach_85 (by decide) ?_
      cases hF
      exact aw_sub [1, 2, 3, 4, 0] rfl (hc ((v4 + 1), I) rfl)
    · rw [if_neg c7] at hF
      refine aw_aload_n dX2_reach_50 0 rfl rfl ?_
      refine aw_aload_n dX2_reach_51 0 rfl rfl ?_
      refine aw_iload_n dX2_reach_52 1 rfl rfl ?_
      refine aw_iload dX2_reach_53 4 rfl ?_
      obtain ⟨y8, ey8, hF⟩ := qbind hF
      refine aw_callVi (As := [.int v1, .int v4]) (sX2_passed hW hb0 ey8) cl_X2_54 rfl (qroomL (by omega) (by decide)) rfl hb0 (Nat.le_of_ble_eq_true rfl) dX2_reach_55 rfl ?_
      refine aw_iload_n dX2_reach_58 2 rfl rfl ?_
      refine aw_iconst (v := (1 : Int32)) dX2_reach_59 (by decide) ?_
      refine aw_isub dX2_reach_60 ?_
      obtain ⟨y9, ey9, hF⟩ := qbind hF
      refine aw_callSi (hrec _ _ _ _ _ hb0 ey9) cl_X2_44 rfl (qroomL (by omega) (by decide)) rfl (Nat.le_of_ble_eq_true rfl) dX2_reach_61 rfl ?_
      refine aw_if_eq (tgt := 82) dX2_reach_64 (by decide) (fun c10 => ?_) (fun c10 => ?_)
      · rw [if_pos c10] at hF
        refine aw_iinc (q := 4) (v := (v4 + 1)) (lv' := [(4, .int (v4 + 1)), (0, .ref (G.1 + b0)), (1, .int v1), (2, .int v2), (3, .int v3)]) dX2_reach_82 rfl rfl (Nat.le_of_ble_eq_true rfl) rfl ?_
        refine aw_goto (tgt := 34) dX2_reach_85 (by decide) ?_
        cases hF
        exact aw_sub [1, 2, 3, 4, 0] rfl (hc ((v4 + 1), y9.2) rfl)
      · rw [if_neg c10] at hF
        refine aw_aload_n dX2_reach_67 0 rfl rfl ?_
        obtain ⟨r11, er11, hF⟩ := qbind hF
        have kr11 : qok R r11 9 := hW.get hb0 er11 rfl
        refine aw_getr fl_X2_11 (by decide) fg_X2_1 hb0 er11 rfl dX2_reach_68 ?_
        refine aw_aload_n dX2_reach_71 0 rfl rfl ?_
        refine aw_geti fl_X2_41 (by decide) fg_X2_0 hb0 rfl dX2_reach_72 ?_
        refine aw_iload_n dX2_reach_75 2 rfl rfl ?_
        refine aw_isub dX2_reach_76 ?_
        refine aw_iload dX2_reach_77 4 rfl ?_
        obtain ⟨I12, eI12, hF⟩ := qbind hF
        refine aw_iastq kr11 eI12 dX2_reach_79 ?_
        refine aw_iconst (v := (1 : Int32)) dX2_reach_80 (by decide) ?_
        cases hF
        have hE := he _ rfl
        subst hE
        exact aw_zret rfl (by decide) dX2_reach_81 hx.1 hx.2 rfl
def bX2_reach (N : Nat) (rec : qR → qI → Nat → Int32 → Int32 → Option (Int32 × qI)) (R : qR) (I : qI) (a0 : Nat) (p1 : Int32) (p2 : Int32) : Option (Int32 × qI) :=
  if p1 = (I a0 3) then
    (some ((1 : Int32), I))
  else
    (if p2 ≤ 0 then
      (some ((0 : Int32), I))
    else
      ((fX2_needOf N R I a0 p1).bind fun y3 =>
      if y3.1 ≤ p2 then
        ((fX2_nextStations N R y3.2 a0 p1).bind fun y5 =>
        (qloop (fun s => cX2_reach_34 N rec R a0 p1 p2 y5 s.1 s.2) N ((0 : Int32), y3.2)).bind fun o13 =>
        qx o13 (fun e14 =>
          (fX2_keep R e14 a0 p1 (p2 + (1 : Int32))).bind fun y16 =>
          some ((0 : Int32), y16)) (fun q15 => some q15))
      else
        (some ((0 : Int32), y3.2))))
set_option maxHeartbeats 4000000 in
set_option maxRecDepth 100000 in
theorem bsX2_reach {l : Launch} {G : qG} {N : Nat} {rec : qR → qI → Nat → Int32 → Int32 → Option (Int32 × qI)} {k : Nat} {R : qR} {I : qI} {a0 : Nat} {p1 : Int32} {p2 : Int32} {rv : Int32} {rI : qI} (hW : qWT R) (ha0 : qok R a0 2) (hrec : ∀ (I : qI) (a : Nat) (x y : Int32) (r : Int32 × qI), qok R a 2 → rec R I a x y = some r → qMt l G mX2_reach (k + 4) [.ref (G.1 + a), .int x, .int y] I R (some (.int r.1)) r.2 R) (hF : bX2_reach N rec R I a0 p1 p2 = some (rv, rI)) : qMt l G mX2_reach (k + 5) [.ref (G.1 + a0), .int p1, .int p2] I R (some (.int rv)) rI R := by
  unfold bX2_reach at hF
  refine qMt_of (by decide) (Nat.le_of_ble_eq_true rfl) ⟨Nat.le_refl _, Nat.le_refl _⟩ ?_
  show AW _ 0 [(0, .ref (G.1 + a0)), (1, .int p1), (2, .int p2)] [] I R
  refine aw_iload_n dX2_reach_0 1 rfl rfl ?_
  refine aw_aload_n dX2_reach_1 0 rfl rfl ?_
  refine aw_geti fl_X2_48 (by decide) fg_X2_3 ha0 rfl dX2_reach_2 ?_
  refine aw_icmp_ne (tgt := 10) dX2_reach_5 (by decide) (fun c1 => ?_) (fun c1 => ?_)
  · rw [if_neg c1] at hF
    refine aw_iload_n dX2_reach_10 2 rfl rfl ?_
    refine aw_if_le (tgt := 23) dX2_reach_11 (by decide) (fun c2 => ?_) (fun c2 => ?_)
    · rw [if_pos c2] at hF
      refine aw_iconst (v := (0 : Int32)) dX2_reach_23 (by decide) ?_
      cases hF
      exact aw_zret rfl (by decide) dX2_reach_24 rfl rfl rfl
    · rw [if_neg c2] at hF
      refine aw_aload_n dX2_reach_14 0 rfl rfl ?_
      refine aw_iload_n dX2_reach_15 1 rfl rfl ?_
      obtain ⟨y3, ey3, hF⟩ := qbind hF
      refine aw_callVi (As := [.int p1]) (sX2_needOf hW ha0 ey3) cl_X2_37 rfl (qroomL (by omega) (by decide)) rfl ha0 (Nat.le_of_ble_eq_true rfl) dX2_reach_16 rfl ?_
      refine aw_iload_n dX2_reach_19 2 rfl rfl ?_
      refine aw_icmp_le (tgt := 25) dX2_reach_20 (by decide) (fun c4 => ?_) (fun c4 => ?_)
      · rw [if_pos c4] at hF
        refine aw_aload_n dX2_reach_25 0 rfl rfl ?_
        refine aw_iload_n dX2_reach_26 1 rfl rfl ?_
        obtain ⟨y5, ey5, hF⟩ := qbind hF
        refine aw_callVi (As := [.int p1]) (sX2_nextStations hW ha0 ey5) cl_X2_51 rfl (qroomL (by omega) (by decide)) rfl ha0 (Nat.le_of_ble_eq_true rfl) dX2_reach_27 rfl ?_
        refine aw_istore_n (lv' := [(3, .int y5), (0, .ref (G.1 + a0)), (1, .int p1), (2, .int p2)]) dX2_reach_30 rfl (Nat.le_of_ble_eq_true rfl) rfl ?_
        refine aw_iconst (v := (0 : Int32)) dX2_reach_31 (by decide) ?_
        refine aw_istore (lv' := [(4, .int (0 : Int32)), (3, .int y5), (0, .ref (G.1 + a0)), (1, .int p1), (2, .int p2)]) dX2_reach_32 (Nat.le_of_ble_eq_true rfl) rfl ?_
        obtain ⟨o13, eo13, hF⟩ := qbind hF
        refine aw_sub [2, 3, 4, 1, 0] rfl (tX2_reach_34 hW hrec ha0 (o := o13) ?_ N ((0 : Int32), y3.2) eo13)
        cases o13 with
        | inl e14 =>
          replace hF := qxl hF
          show AW _ 88 [(0, .ref (G.1 + a0)), (1, .int p1), (2, .int p2)] [] e14 R
          refine aw_aload_n dX2_reach_88 0 rfl rfl ?_
          refine aw_iload_n dX2_reach_89 1 rfl rfl ?_
          refine aw_iload_n dX2_reach_90 2 rfl rfl ?_
          refine aw_iconst (v := (1 : Int32)) dX2_reach_91 (by decide) ?_
          refine aw_iadd dX2_reach_92 ?_
          obtain ⟨y16, ey16, hF⟩ := qbind hF
          refine aw_callVv (As := [.int p1, .int (p2 + (1 : Int32))]) (sX2_keep hW ha0 ey16) cl_X2_58 rfl (qroomL (by omega) (by decide)) rfl ha0 (Nat.le_of_ble_eq_true rfl) dX2_reach_93 rfl ?_
          refine aw_iconst (v := (0 : Int32)) dX2_reach_96 (by decide) ?_
          cases hF
          exact aw_zret rfl (by decide) dX2_reach_97 rfl rfl rfl
        | inr q15 =>
          replace hF := qxr hF
          cases hF
          exact ⟨rfl, rfl⟩
      · rw [if_neg c4] at hF
        refine aw_iconst (v := (0 : Int32)) dX2_reach_23 (by decide) ?_
        cases hF
        exact aw_zret rfl (by decide) dX2_reach_24 rfl rfl rfl
  · rw [if_pos c1] at hF
    refine aw_iconst (v := (1 : Int32)) dX2_reach_8 (by decide) ?_
    cases hF
    exact aw_zret rfl (by decide) dX2_reach_9 rfl rfl rfl
def fX2_reach (N : Nat) : Nat → qR → qI → Nat → Int32 → Int32 → Option (Int32 × qI)
  | 0 => fun _ _ _ _ _ => none
  | k + 1 => fun R I a0 p1 p2 => bX2_reach N (fX2_reach N k) R I a0 p1 p2
theorem sX2_reach_at {l : Launch} {G : qG} {N : Nat} {R : qR} (hW : qWT R) : ∀ (k : Nat) (I : qI) (a : Nat) (x y : Int32) (r : Int32 × qI), qok R a 2 → fX2_reach N k R I a x y = some r → qMt l G mX2_reach (k + 4) [.ref (G.1 + a), .int x, .int y] I R (some (.int r.1)) r.2 R := by
  intro k
  induction k with
  | zero => intro I a x y r _ h; cases h
  | succ k ih => intro I a x y r ha h; exact bsX2_reach hW ha ih h
theorem sX2_reach {l : Launch} {G : qG} {N : Nat} {R : qR} {I : qI} {a0 : Nat} {p1 p2 : Int32} {r : Int32 × qI} (hW : qWT R) (ha0 : qok R a0 2) (hF : fX2_reach N 50 R I a0 p1 p2 = some r) : qMt l G mX2_reach 54 [.ref (G.1 + a0), .int p1, .int p2] I R (some (.int r.1)) r.2 R := sX2_reach_at hW 50 I a0 p1 p2 r ha0 hF

def fX3_tell (R : qR) (I : qI) (a0 : Nat) (p1 : Int32) (p2 : Int32) : Option (qI) :=
  (R.1 a0 0).bind fun r1 =>
  (qwr I R r1 p1 p2).bind fun I2 =>
  some I2
set_option maxHeartbeats 4000000 in
set_option maxRecDepth 100000 in
theorem sX3_tell {l : Launch} {G : qG} {R : qR} {I : qI} {a0 : Nat} {p1 : Int32} {p2 : Int32} {rI : qI} (hW : qWT R) (ha0 : qok R a0 3) (hF : fX3_tell R I a0 p1 p2 = some rI) : qMt l G mX3_tell 1 [.ref (G.1 + a0), .int p1, .int p2] I R (none) rI R := by
  unfold fX3_tell at hF
  refine qMt_of (by decide) (Nat.le_of_ble_eq_true rfl) ⟨Nat.le_refl _, Nat.le_refl _⟩ ?_
  show AW _ 0 [(0, .ref (G.1 + a0)), (1, .int p1), (2, .int p2)] [] I R
  refine aw_aload_n dX3_tell_0 0 rfl rfl ?_
  obtain ⟨r1, er1, hF⟩ := qbind hF
  have kr1 : qok R r1 9 := hW.get ha0 er1 rfl
  refine aw_getr fl_X3_11 (by decide) fg_X3_0 ha0 er1 rfl dX3_tell_1 ?_
  refine aw_iload_n dX3_tell_4 1 rfl rfl ?_
  refine aw_iload_n dX3_tell_5 2 rfl rfl ?_
  obtain ⟨I2, eI2, hF⟩ := qbind hF
  refine aw_iastq kr1 eI2 dX3_tell_6 ?_
  cases hF
  exact aw_vret rfl dX3_tell_7 rfl rfl rfl
def fX3_lesser (R : qR) (I : qI) (p0 : Int32) (p1 : Int32) : Option (Int32) :=
  (fJ6_bitCount_0f7a4 R I p0).bind fun y1 =>
  (fJ6_bitCount_0f7a4 R I p1).bind fun y2 =>
  if (y1 - y2) = 0 then
    (some (if p1 < p0 then p1 else p0))
  else
    (if 0 ≤ (y1 - y2) then
      (some p1)
    else
      (some p0))
set_option maxHeartbeats 4000000 in
set_option maxRecDepth 100000 in
theorem sX3_lesser {l : Launch} {G : qG} {R : qR} {I : qI} {p0 : Int32} {p1 : Int32} {rv : Int32} (hW : qWT R)  (hF : fX3_lesser R I p0 p1 = some rv) : qMt l G mX3_lesser 2 [.int p0, .int p1] I R (some (.int rv)) I R := by
  unfold fX3_lesser at hF
  refine qMt_of (by decide) (Nat.le_of_ble_eq_true rfl) ⟨Nat.le_refl _, Nat.le_refl _⟩ ?_
  show AW _ 0 [(0, .int p0), (1, .int p1)] [] I R
  refine aw_iload_n dX3_lesser_0 0 rfl rfl ?_
  obtain ⟨y1, ey1, hF⟩ := qbind hF
  refine aw_callSi (sJ6_bitCount_0f7a4 hW  ey1) cl_X3_23 rfl (qroomL (by decide) (by decide)) rfl (Nat.le_of_ble_eq_true rfl) dX3_lesser_1 rfl ?_
  refine aw_iload_n dX3_lesser_4 1 rfl rfl ?_
  obtain ⟨y2, ey2, hF⟩ := qbind hF
  refine aw_callSi (sJ6_bitCount_0f7a4 hW  ey2) cl_X3_23 rfl (qroomL (by decide) (by decide)) rfl (Nat.le_of_ble_eq_true rfl) dX3_lesser_5 rfl ?_
  refine aw_isub dX3_lesser_8 ?_
  refine aw_istore_n (lv' := [(2, .int (y1 - y2)), (0, .int p0), (1, .int p1)]) dX3_lesser_9 rfl (Nat.le_of_ble_eq_true rfl) rfl ?_
  refine aw_iload_n dX3_lesser_10 0 rfl rfl ?_
  refine aw_if_eq (tgt := 24) dX3_lesser_11 (by decide) (fun c3 => ?_) (fun c3 => ?_)
  · rw [if_pos c3] at hF
    refine aw_iload_n dX3_lesser_24 1 rfl rfl ?_
    refine aw_iload_n dX3_lesser_25 2 rfl rfl ?_
    refine aw_minq cl_X3_28 rfl (Nat.le_of_ble_eq_true rfl) (by decide) dX3_lesser_26 ?_
    cases hF
    exact aw_iret rfl dX3_lesser_29 rfl rfl rfl
  · rw [if_neg c3] at hF
    refine aw_iload_n dX3_lesser_14 0 rfl rfl ?_
    refine aw_if_ge (tgt := 22) dX3_lesser_15 (by decide) (fun c4 => ?_) (fun c4 => ?_)
    · rw [if_pos c4] at hF
      refine aw_iload_n dX3_lesser_22 2 rfl rfl ?_
      cases hF
      exact aw_iret rfl dX3_lesser_23 rfl rfl rfl
    · rw [if_neg c4] at hF
      refine aw_iload_n dX3_lesser_18 1 rfl rfl ?_
      refine aw_goto (tgt := 23) dX3_lesser_19 (by decide) ?_
      cases hF
      exact aw_iret rfl dX3_lesser_23 rfl rfl rfl
