def cX3_unionOf_4 (N : Nat) (R : qR) (I : qI) (b0 : Nat) (v1 : Int32) (v2 : Int32) (v3 : Int32) : Option ((Int32 × Int32) ⊕ (Int32)) :=
  if (6 : Int32) ≤ v3 then
    (some (.inr v2))
  else
    (if ((v1 >>> (v3 &&& 31)) &&& (1 : Int32)) = 0 then
      (some (.inl (v2, (v3 + 1))))
    else
      ((R.1 b0 0).bind fun r3 =>
      (qrd I R r3 v3).bind fun x4 =>
      some (.inl ((v2 ||| x4), (v3 + 1)))))
set_option maxHeartbeats 4000000 in
set_option maxRecDepth 100000 in
theorem tX3_unionOf_4 {l : Launch} {G : qG} {N : Nat} {R : qR} {I : qI} {As : List Value} {rv : Option Value} {b0 : Nat} {v1 : Int32} (hW : qWT R) (hb0 : qok R b0 3) {o : Int32} (hx : AW (Zm l G mX3_unionOf 1 As R rv I R) 33 [(2, .int o)] [] I R) : ∀ n s, qloop (fun s => cX3_unionOf_4 N R I b0 v1 s.1 s.2) n s = some o → (match s with | (v2, v3) => AW (Zm l G mX3_unionOf 1 As R rv I R) 4 [(0, .ref (G.1 + b0)), (1, .int v1), (2, .int v2), (3, .int v3)] [] I R) := by
  apply qloop_ind
  intro s x hF hc he
  obtain ⟨v2, v3⟩ := s
  change cX3_unionOf_4 N R I b0 v1 v2 v3 = some x at hF
  unfold cX3_unionOf_4 at hF
  show AW _ 4 [(0, .ref (G.1 + b0)), (1, .int v1), (2, .int v2), (3, .int v3)] [] I R
  refine aw_iload_n dX3_unionOf_4 3 rfl rfl ?_
  refine aw_bipush (v := (6 : Int32)) dX3_unionOf_5 (by decide) ?_
  refine aw_icmp_ge (tgt := 33) dX3_unionOf_7 (by decide) (fun c1 => ?_) (fun c1 => ?_)
  · rw [if_pos c1] at hF
    cases hF
    have hE := he _ rfl
    subst hE
    exact aw_sub [2] rfl hx
  · rw [if_neg c1] at hF
    refine aw_iload_n dX3_unionOf_10 1 rfl rfl ?_
    refine aw_iload_n dX3_unionOf_11 3 rfl rfl ?_
    refine aw_ishr dX3_unionOf_12 ?_
    refine aw_iconst (v := (1 : Int32)) dX3_unionOf_13 (by decide) ?_
    refine aw_iand dX3_unionOf_14 ?_
    refine aw_if_eq (tgt := 27) dX3_unionOf_15 (by decide) (fun c2 => ?_) (fun c2 => ?_)
    · rw [if_pos c2] at hF
      refine aw_iinc (q := 3) (v := (v3 + 1)) (lv' := [(3, .int (v3 + 1)), (0, .ref (G.1 + b0)), (1, .int v1), (2, .int v2)]) dX3_unionOf_27 rfl rfl (Nat.le_of_ble_eq_true rfl) rfl ?_
      refine aw_goto (tgt := 4) dX3_unionOf_30 (by decide) ?_
      cases hF
      exact aw_sub [1, 2, 3, 0] rfl (hc (v2, (v3 + 1)) rfl)
    · rw [if_neg c2] at hF
      refine aw_iload_n dX3_unionOf_18 2 rfl rfl ?_
      refine aw_aload_n dX3_unionOf_19 0 rfl rfl ?_
      obtain ⟨r3, er3, hF⟩ := qbind hF
      have kr3 : qok R r3 9 := hW.get hb0 er3 rfl
      refine aw_getr fl_X3_11 (by decide) fg_X3_0 hb0 er3 rfl dX3_unionOf_20 ?_
      refine aw_iload_n dX3_unionOf_23 3 rfl rfl ?_
      obtain ⟨x4, ex4, hF⟩ := qbind hF
      refine aw_ialdq kr3 ex4 dX3_unionOf_24 ?_
      refine aw_ior dX3_unionOf_25 ?_
      refine aw_istore_n (lv' := [(2, .int (v2 ||| x4)), (0, .ref (G.1 + b0)), (1, .int v1), (3, .int v3)]) dX3_unionOf_26 rfl (Nat.le_of_ble_eq_true rfl) rfl ?_
      refine aw_iinc (q := 3) (v := (v3 + 1)) (lv' := [(3, .int (v3 + 1)), (2, .int (v2 ||| x4)), (0, .ref (G.1 + b0)), (1, .int v1)]) dX3_unionOf_27 rfl rfl (Nat.le_of_ble_eq_true rfl) rfl ?_
      refine aw_goto (tgt := 4) dX3_unionOf_30 (by decide) ?_
      cases hF
      exact aw_sub [2, 3, 1, 0] rfl (hc ((v2 ||| x4), (v3 + 1)) rfl)
def fX3_unionOf (N : Nat) (R : qR) (I : qI) (a0 : Nat) (p1 : Int32) : Option (Int32) :=
  (qloop (fun s => cX3_unionOf_4 N R I a0 p1 s.1 s.2) N ((0 : Int32), (0 : Int32))).bind fun o5 =>
  some o5
set_option maxHeartbeats 4000000 in
set_option maxRecDepth 100000 in
theorem sX3_unionOf {l : Launch} {G : qG} {N : Nat} {R : qR} {I : qI} {a0 : Nat} {p1 : Int32} {rv : Int32} (hW : qWT R) (ha0 : qok R a0 3) (hF : fX3_unionOf N R I a0 p1 = some rv) : qMt l G mX3_unionOf 1 [.ref (G.1 + a0), .int p1] I R (some (.int rv)) I R := by
  unfold fX3_unionOf at hF
  refine qMt_of (by decide) (Nat.le_of_ble_eq_true rfl) ⟨Nat.le_refl _, Nat.le_refl _⟩ ?_
  show AW _ 0 [(0, .ref (G.1 + a0)), (1, .int p1)] [] I R
  refine aw_iconst (v := (0 : Int32)) dX3_unionOf_0 (by decide) ?_
  refine aw_istore_n (lv' := [(2, .int (0 : Int32)), (0, .ref (G.1 + a0)), (1, .int p1)]) dX3_unionOf_1 rfl (Nat.le_of_ble_eq_true rfl) rfl ?_
  refine aw_iconst (v := (0 : Int32)) dX3_unionOf_2 (by decide) ?_
  refine aw_istore_n (lv' := [(3, .int (0 : Int32)), (2, .int (0 : Int32)), (0, .ref (G.1 + a0)), (1, .int p1)]) dX3_unionOf_3 rfl (Nat.le_of_ble_eq_true rfl) rfl ?_
  obtain ⟨o5, eo5, hF⟩ := qbind hF
  refine aw_sub [2, 3, 1, 0] rfl (tX3_unionOf_4 hW ha0 (o := o5) ?_ N ((0 : Int32), (0 : Int32)) eo5)
  show AW _ 33 [(2, .int o5)] [] I R
  refine aw_iload_n dX3_unionOf_33 0 rfl rfl ?_
  cases hF
  exact aw_iret rfl dX3_unionOf_34 rfl rfl rfl
def cX3_fewestFor_4 (N : Nat) (R : qR) (I : qI) (b0 : Nat) (v1 : Int32) (v2 : Int32) (v3 : Int32) : Option ((Int32 × Int32) ⊕ (Int32)) :=
  if (64 : Int32) ≤ v3 then
    (some (.inr v2))
  else
    ((fX3_unionOf N R I b0 v3).bind fun y2 =>
    if (y2 &&& (v1 ^^^ (-1 : Int32))) = 0 then
      ((fX3_lesser R I v2 ((v3 <<< ((7 : Int32) &&& 31)) ||| (v1 &&& (y2 ^^^ (-1 : Int32))))).bind fun y4 =>
      some (.inl (y4, (v3 + 1))))
    else
      (some (.inl (v2, (v3 + 1)))))
set_option maxHeartbeats 4000000 in
set_option maxRecDepth 100000 in
theorem tX3_fewestFor_4 {l : Launch} {G : qG} {N : Nat} {R : qR} {I : qI} {As : List Value} {rv : Option Value} {b0 : Nat} {v1 : Int32} (hW : qWT R) (hb0 : qok R b0 3) {o : Int32} (hx : AW (Zm l G mX3_fewestFor 3 As R rv I R) 48 [(2, .int o)] [] I R) : ∀ n s, qloop (fun s => cX3_fewestFor_4 N R I b0 v1 s.1 s.2) n s = some o → (match s with | (v2, v3) => AW (Zm l G mX3_fewestFor 3 As R rv I R) 4 [(0, .ref (G.1 + b0)), (1, .int v1), (2, .int v2), (3, .int v3)] [] I R) := by
  apply qloop_ind
  intro s x hF hc he
  obtain ⟨v2, v3⟩ := s
  change cX3_fewestFor_4 N R I b0 v1 v2 v3 = some x at hF
  unfold cX3_fewestFor_4 at hF
  show AW _ 4 [(0, .ref (G.1 + b0)), (1, .int v1), (2, .int v2), (3, .int v3)] [] I R
  refine aw_iload_n dX3_fewestFor_4 3 rfl rfl ?_
  refine aw_bipush (v := (64 : Int32)) dX3_fewestFor_5 (by decide) ?_
  refine aw_icmp_ge (tgt := 48) dX3_fewestFor_7 (by decide) (fun c1 => ?_) (fun c1 => ?_)
  · rw [if_pos c1] at hF
    cases hF
    have hE := he _ rfl
    subst hE
    exact aw_sub [2] rfl hx
  · rw [if_neg c1] at hF
    refine aw_aload_n dX3_fewestFor_10 0 rfl rfl ?_
    refine aw_iload_n dX3_fewestFor_11 3 rfl rfl ?_
    obtain ⟨y2, ey2, hF⟩ := qbind hF
    refine aw_callVi (As := [.int v3]) (sX3_unionOf hW hb0 ey2) cl_X3_15 rfl (qroomL (by decide) (by decide)) rfl hb0 (Nat.le_of_ble_eq_true rfl) dX3_fewestFor_12 rfl ?_
    refine aw_istore (lv' := [(4, .int y2), (0, .ref (G.1 + b0)), (1, .int v1), (2, .int v2), (3, .int v3)]) dX3_fewestFor_15 (Nat.le_of_ble_eq_true rfl) rfl ?_
    refine aw_iload dX3_fewestFor_17 0 rfl ?_
    refine aw_iload_n dX3_fewestFor_19 2 rfl rfl ?_
    refine aw_iconst (v := (-1 : Int32)) dX3_fewestFor_20 (by decide) ?_
    refine aw_ixor dX3_fewestFor_21 ?_
    refine aw_iand dX3_fewestFor_22 ?_
    refine aw_if_ne (tgt := 42) dX3_fewestFor_23 (by decide) (fun c3 => ?_) (fun c3 => ?_)
    · rw [if_neg c3] at hF
      refine aw_iinc (q := 4) (v := (v3 + 1)) (lv' := [(3, .int (v3 + 1)), (4, .int y2), (0, .ref (G.1 + b0)), (1, .int v1), (2, .int v2)]) dX3_fewestFor_42 rfl rfl (Nat.le_of_ble_eq_true rfl) rfl ?_
      refine aw_goto (tgt := 4) dX3_fewestFor_45 (by decide) ?_
      cases hF
      exact aw_sub [2, 3, 4, 0] rfl (hc (v2, (v3 + 1)) rfl)
    · rw [if_pos c3] at hF
      refine aw_iload_n dX3_fewestFor_26 3 rfl rfl ?_
      refine aw_iload_n dX3_fewestFor_27 4 rfl rfl ?_
      refine aw_bipush (v := (7 : Int32)) dX3_fewestFor_28 (by decide) ?_
      refine aw_ishl dX3_fewestFor_30 ?_
      refine aw_iload_n dX3_fewestFor_31 2 rfl rfl ?_
      refine aw_iload dX3_fewestFor_32 0 rfl ?_
      refine aw_iconst (v := (-1 : Int32)) dX3_fewestFor_34 (by decide) ?_
      refine aw_ixor dX3_fewestFor_35 ?_
      refine aw_iand dX3_fewestFor_36 ?_
      refine aw_ior dX3_fewestFor_37 ?_
      obtain ⟨y4, ey4, hF⟩ := qbind hF
      refine aw_callSi (sX3_lesser hW  ey4) cl_X3_19 rfl (qroomL (by decide) (by decide)) rfl (Nat.le_of_ble_eq_true rfl) dX3_fewestFor_38 rfl ?_
      refine aw_istore_n (lv' := [(2, .int y4), (4, .int y2), (0, .ref (G.1 + b0)), (1, .int v1), (3, .int v3)]) dX3_fewestFor_41 rfl (Nat.le_of_ble_eq_true rfl) rfl ?_
      refine aw_iinc (q := 4) (v := (v3 + 1)) (lv' := [(3, .int (v3 + 1)), (2, .int y4), (4, .int y2), (0, .ref (G.1 + b0)), (1, .int v1)]) dX3_fewestFor_42 rfl rfl (Nat.le_of_ble_eq_true rfl) rfl ?_
      refine aw_goto (tgt := 4) dX3_fewestFor_45 (by decide) ?_
      cases hF
      exact aw_sub [3, 4, 1, 0] rfl (hc (y4, (v3 + 1)) rfl)
def fX3_fewestFor (N : Nat) (R : qR) (I : qI) (a0 : Nat) (p1 : Int32) : Option (Int32) :=
  (qloop (fun s => cX3_fewestFor_4 N R I a0 p1 s.1 s.2) N (p1, (1 : Int32))).bind fun o5 =>
  some o5
set_option maxHeartbeats 4000000 in
set_option maxRecDepth 100000 in
theorem sX3_fewestFor {l : Launch} {G : qG} {N : Nat} {R : qR} {I : qI} {a0 : Nat} {p1 : Int32} {rv : Int32} (hW : qWT R) (ha0 : qok R a0 3) (hF : fX3_fewestFor N R I a0 p1 = some rv) : qMt l G mX3_fewestFor 3 [.ref (G.1 + a0), .int p1] I R (some (.int rv)) I R := by
  unfold fX3_fewestFor at hF
  refine qMt_of (by decide) (Nat.le_of_ble_eq_true rfl) ⟨Nat.le_refl _, Nat.le_refl _⟩ ?_
  show AW _ 0 [(0, .ref (G.1 + a0)), (1, .int p1)] [] I R
  refine aw_iload_n dX3_fewestFor_0 1 rfl rfl ?_
  refine aw_istore_n (lv' := [(2, .int p1), (0, .ref (G.1 + a0)), (1, .int p1)]) dX3_fewestFor_1 rfl (Nat.le_of_ble_eq_true rfl) rfl ?_
  refine aw_iconst (v := (1 : Int32)) dX3_fewestFor_2 (by decide) ?_
  refine aw_istore_n (lv' := [(3, .int (1 : Int32)), (2, .int p1), (0, .ref (G.1 + a0)), (1, .int p1)]) dX3_fewestFor_3 rfl (Nat.le_of_ble_eq_true rfl) rfl ?_
  obtain ⟨o5, eo5, hF⟩ := qbind hF
  refine aw_sub [2, 3, 1, 0] rfl (tX3_fewestFor_4 hW ha0 (o := o5) ?_ N (p1, (1 : Int32)) eo5)
  show AW _ 48 [(2, .int o5)] [] I R
  refine aw_iload_n dX3_fewestFor_48 0 rfl rfl ?_
  cases hF
  exact aw_iret rfl dX3_fewestFor_49 rfl rfl rfl
def cX4_placeStops_4 (N : Nat) (R : qR) (b0 : Nat) (v1 : Int32) (v2 : Int32) (v3 : Int32) (I : qI) : Option ((Int32 × Int32 × qI) ⊕ (qI)) :=
  (R.1 b0 3).bind fun r1 =>
  if (I r1 0) ≤ v3 then
    (some (.inr I))
  else
    ((R.1 b0 0).bind fun r3 =>
    (qra R r3 v1).bind fun r4 =>
    if (I r4 1) ≤ v2 then
      (some (.inr I))
    else
      ((R.1 r1 1).bind fun r6 =>
      (qrd I R r6 v3).bind fun x7 =>
      (R.1 r4 2).bind fun r8 =>
      (qrd I R r8 v2).bind fun x9 =>
      if x7 = x9 then
        ((R.1 b0 2).bind fun r11 =>
        (qwr I R r11 ((v1 * (7 : Int32)) + v2) v3).bind fun I12 =>
        some (.inl ((v2 + 1), (v3 + 1), I12)))
      else
        (some (.inl (v2, (v3 + 1), I)))))
set_option maxHeartbeats 4000000 in
set_option maxRecDepth 100000 in
theorem tX4_placeStops_4 {l : Launch} {G : qG} {N : Nat} {R : qR} {As : List Value} {rv : Option Value} {I1 : qI} {b0 : Nat} {v1 : Int32} (hW : qWT R) (hb0 : qok R b0 4) {o : qI} (hx : AW (Zm l G mX4_placeStops 1 As R rv I1 R) 72 [] [] o R) : ∀ n s, qloop (fun s => cX4_placeStops_4 N R b0 v1 s.1 s.2.1 s.2.2) n s = some o → (match s with | (v2, v3, I) => AW (Zm l G mX4_placeStops 1 As R rv I1 R) 4 [(0, .ref (G.1 + b0)), (1, .int v1), (2, .int v2), (3, .int v3)] [] I R) := by
  apply qloop_ind
  intro s x hF hc he
  obtain ⟨v2, v3, I⟩ := s
  change cX4_placeStops_4 N R b0 v1 v2 v3 I = some x at hF
  unfold cX4_placeStops_4 at hF
  show AW _ 4 [(0, .ref (G.1 + b0)), (1, .int v1), (2, .int v2), (3, .int v3)] [] I R
  refine aw_iload_n dX4_placeStops_4 3 rfl rfl ?_
  refine aw_aload_n dX4_placeStops_5 0 rfl rfl ?_
  obtain ⟨r1, er1, hF⟩ := qbind hF
  have kr1 : qok R r1 2 := hW.get hb0 er1 rfl
  refine aw_getr fl_X4_27 (by decide) fg_X4_3 hb0 er1 rfl dX4_placeStops_6 ?_
  refine aw_geti fl_X4_67 (by decide) fg_X2_0 kr1 rfl dX4_placeStops_9 ?_
  refine aw_icmp_ge (tgt := 72) dX4_placeStops_12 (by decide) (fun c2 => ?_) (fun c2 => ?_)
  · rw [if_pos c2] at hF
    cases hF
    have hE := he _ rfl
    subst hE
    exact aw_sub [] rfl hx
  · rw [if_neg c2] at hF
    refine aw_iload_n dX4_placeStops_15 2 rfl rfl ?_
    refine aw_aload_n dX4_placeStops_16 0 rfl rfl ?_
    obtain ⟨r3, er3, hF⟩ := qbind hF
    have kr3 : qok R r3 11 := hW.get hb0 er3 rfl
    refine aw_getr fl_X4_11 (by decide) fg_X4_0 hb0 er3 rfl dX4_placeStops_17 ?_
    refine aw_iload_n dX4_placeStops_20 1 rfl rfl ?_
    obtain ⟨r4, er4, hF⟩ := qbind hF
    have kr4 : qok R r4 5 := hW.elem kr3 er4
    refine aw_aaldq kr3 er4 dX4_placeStops_21 ?_
    refine aw_geti fl_X4_83 (by decide) fg_X5_1 kr4 rfl dX4_placeStops_22 ?_
    refine aw_icmp_ge (tgt := 72) dX4_placeStops_25 (by decide) (fun c5 => ?_) (fun c5 => ?_)
    · rw [if_pos c5] at hF
      cases hF
      have hE := he _ rfl
      subst hE
      exact aw_sub [] rfl hx
    · rw [if_neg c5] at hF
      refine aw_aload_n dX4_placeStops_28 0 rfl rfl ?_
      refine aw_getr fl_X4_27 (by decide) fg_X4_3 hb0 er1 rfl dX4_placeStops_29 ?_
      obtain ⟨r6, er6, hF⟩ := qbind hF
      have kr6 : qok R r6 9 := hW.get kr1 er6 rfl
      refine aw_getr fl_X4_70 (by decide) fg_X2_1 kr1 er6 rfl dX4_placeStops_32 ?_
      refine aw_iload_n dX4_placeStops_35 3 rfl rfl ?_
      obtain ⟨x7, ex7, hF⟩ := qbind hF
      refine aw_ialdq kr6 ex7 dX4_placeStops_36 ?_
      refine aw_aload_n dX4_placeStops_37 0 rfl rfl ?_
      refine aw_getr fl_X4_11 (by decide) fg_X4_0 hb0 er3 rfl dX4_placeStops_38 ?_
      refine aw_iload_n dX4_placeStops_41 1 rfl rfl ?_
      refine aw_aaldq kr3 er4 dX4_placeStops_42 ?_
      obtain ⟨r8, er8, hF⟩ := qbind hF
      have kr8 : qok R r8 9 := hW.get kr4 er8 rfl
      refine aw_getr fl_X4_112 (by decide) fg_X5_2 kr4 er8 rfl dX4_placeStops_43 ?_
      refine aw_iload_n dX4_placeStops_46 2 rfl rfl ?_
      obtain ⟨x9, ex9, hF⟩ := qbind hF
      refine aw_ialdq kr8 ex9 dX4_placeStops_47 ?_
      refine aw_icmp_ne (tgt := 66) dX4_placeStops_48 (by decide) (fun c10 => ?_) (fun c10 => ?_)
      · rw [if_neg c10] at hF
        refine aw_iinc (q := 3) (v := (v3 + 1)) (lv' := [(3, .int (v3 + 1)), (0, .ref (G.1 + b0)), (1, .int v1), (2, .int v2)]) dX4_placeStops_66 rfl rfl (Nat.le_of_ble_eq_true rfl) rfl ?_
        refine aw_goto (tgt := 4) dX4_placeStops_69 (by decide) ?_
        cases hF
        exact aw_sub [1, 2, 3, 0] rfl (hc (v2, (v3 + 1), I) rfl)
      · rw [if_pos c10] at hF
        refine aw_aload_n dX4_placeStops_51 0 rfl rfl ?_
        obtain ⟨r11, er11, hF⟩ := qbind hF
        have kr11 : qok R r11 9 := hW.get hb0 er11 rfl
        refine aw_getr fl_X4_21 (by decide) fg_X4_2 hb0 er11 rfl dX4_placeStops_52 ?_
        refine aw_iload_n dX4_placeStops_55 1 rfl rfl ?_
        refine aw_bipush (v := (7 : Int32)) dX4_placeStops_56 (by decide) ?_
        refine aw_imul dX4_placeStops_58 ?_
        refine aw_iload_n dX4_placeStops_59 2 rfl rfl ?_
        refine aw_iadd dX4_placeStops_60 ?_
        refine aw_iload_n dX4_placeStops_61 3 rfl rfl ?_
        obtain ⟨I12, eI12, hF⟩ := qbind hF
        refine aw_iastq kr11 eI12 dX4_placeStops_62 ?_
        refine aw_iinc (q := 2) (v := (v2 + 1)) (lv' := [(2, .int (v2 + 1)), (0, .ref (G.1 + b0)), (1, .int v1), (3, .int v3)]) dX4_placeStops_63 rfl rfl (Nat.le_of_ble_eq_true rfl) rfl ?_
        refine aw_iinc (q := 3) (v := (v3 + 1)) (lv' := [(3, .int (v3 + 1)), (2, .int (v2 + 1)), (0, .ref (G.1 + b0)), (1, .int v1)]) dX4_placeStops_66 rfl rfl (Nat.le_of_ble_eq_true rfl) rfl ?_
        refine aw_goto (tgt := 4) dX4_placeStops_69 (by decide) ?_
        cases hF
        exact aw_sub [2, 3, 1, 0] rfl (hc ((v2 + 1), (v3 + 1), I12) rfl)
def fX4_placeStops (N : Nat) (R : qR) (I : qI) (a0 : Nat) (p1 : Int32) : Option (qI) :=
  (qloop (fun s => cX4_placeStops_4 N R a0 p1 s.1 s.2.1 s.2.2) N ((0 : Int32), (0 : Int32), I)).bind fun o13 =>
  some o13
set_option maxHeartbeats 4000000 in
set_option maxRecDepth 100000 in
theorem sX4_placeStops {l : Launch} {G : qG} {N : Nat} {R : qR} {I : qI} {a0 : Nat} {p1 : Int32} {rI : qI} (hW : qWT R) (ha0 : qok R a0 4) (hF : fX4_placeStops N R I a0 p1 = some rI) : qMt l G mX4_placeStops 1 [.ref (G.1 + a0), .int p1] I R (none) rI R := by
  unfold fX4_placeStops at hF
  refine qMt_of (by decide) (Nat.le_of_ble_eq_true rfl) ⟨Nat.le_refl _, Nat.le_refl _⟩ ?_
  show AW _ 0 [(0, .ref (G.1 + a0)), (1, .int p1)] [] I R
  refine aw_iconst (v := (0 : Int32)) dX4_placeStops_0 (by decide) ?_
  refine aw_istore_n (lv' := [(2, .int (0 : Int32)), (0, .ref (G.1 + a0)), (1, .int p1)]) dX4_placeStops_1 rfl (Nat.le_of_ble_eq_true rfl) rfl ?_
  refine aw_iconst (v := (0 : Int32)) dX4_placeStops_2 (by decide) ?_
  refine aw_istore_n (lv' := [(3, .int (0 : Int32)), (2, .int (0 : Int32)), (0, .ref (G.1 + a0)), (1, .int p1)]) dX4_placeStops_3 rfl (Nat.le_of_ble_eq_true rfl) rfl ?_
  obtain ⟨o13, eo13, hF⟩ := qbind hF
  refine aw_sub [2, 3, 1, 0] rfl (tX4_placeStops_4 hW ha0 (o := o13) ?_ N ((0 : Int32), (0 : Int32), I) eo13)
  show AW _ 72 [] [] o13 R
  cases hF
  exact aw_vret rfl dX4_placeStops_72 rfl rfl rfl
def fX4_firstRow (R : qR) (I : qI) (a0 : Nat) (p1 : Int32) : Option (Int32) :=
  (R.1 a0 2).bind fun r1 =>
  (qrd I R r1 (p1 * (7 : Int32))).bind fun x2 =>
  some x2
set_option maxHeartbeats 4000000 in
set_option maxRecDepth 100000 in
theorem sX4_firstRow {l : Launch} {G : qG} {R : qR} {I : qI} {a0 : Nat} {p1 : Int32} {rv : Int32} (hW : qWT R) (ha0 : qok R a0 4) (hF : fX4_firstRow R I a0 p1 = some rv) : qMt l G mX4_firstRow 1 [.ref (G.1 + a0), .int p1] I R (some (.int rv)) I R := by
  unfold fX4_firstRow at hF
  refine qMt_of (by decide) (Nat.le_of_ble_eq_true rfl) ⟨Nat.le_refl _, Nat.le_refl _⟩ ?_
  show AW _ 0 [(0, .ref (G.1 + a0)), (1, .int p1)] [] I R
  refine aw_aload_n dX4_firstRow_0 0 rfl rfl ?_
  obtain ⟨r1, er1, hF⟩ := qbind hF
  have kr1 : qok R r1 9 := hW.get ha0 er1 rfl
  refine aw_getr fl_X4_21 (by decide) fg_X4_2 ha0 er1 rfl dX4_firstRow_1 ?_
  refine aw_iload_n dX4_firstRow_4 1 rfl rfl ?_
  refine aw_bipush (v := (7 : Int32)) dX4_firstRow_5 (by decide) ?_
  refine aw_imul dX4_firstRow_7 ?_
  obtain ⟨x2, ex2, hF⟩ := qbind hF
  refine aw_ialdq kr1 ex2 dX4_firstRow_8 ?_
  cases hF
  exact aw_iret rfl dX4_firstRow_9 rfl rfl rfl
def fX4_lastRow (R : qR) (I : qI) (a0 : Nat) (p1 : Int32) : Option (Int32) :=
  (R.1 a0 2).bind fun r1 =>
  (R.1 a0 0).bind fun r2 =>
  (qra R r2 p1).bind fun r3 =>
  (qrd I R r1 (((p1 * (7 : Int32)) + (I r3 1)) - (1 : Int32))).bind fun x4 =>
  some x4
set_option maxHeartbeats 4000000 in
set_option maxRecDepth 100000 in
theorem sX4_lastRow {l : Launch} {G : qG} {R : qR} {I : qI} {a0 : Nat} {p1 : Int32} {rv : Int32} (hW : qWT R) (ha0 : qok R a0 4) (hF : fX4_lastRow R I a0 p1 = some rv) : qMt l G mX4_lastRow 1 [.ref (G.1 + a0), .int p1] I R (some (.int rv)) I R := by
  unfold fX4_lastRow at hF
  refine qMt_of (by decide) (Nat.le_of_ble_eq_true rfl) ⟨Nat.le_refl _, Nat.le_refl _⟩ ?_
  show AW _ 0 [(0, .ref (G.1 + a0)), (1, .int p1)] [] I R
  refine aw_aload_n dX4_lastRow_0 0 rfl rfl ?_
  obtain ⟨r1, er1, hF⟩ := qbind hF
  have kr1 : qok R r1 9 := hW.get ha0 er1 rfl
  refine aw_getr fl_X4_21 (by decide) fg_X4_2 ha0 er1 rfl dX4_lastRow_1 ?_
  refine aw_iload_n dX4_lastRow_4 1 rfl rfl ?_
  refine aw_bipush (v := (7 : Int32)) dX4_lastRow_5 (by decide) ?_
  refine aw_imul dX4_lastRow_7 ?_
  refine aw_aload_n dX4_lastRow_8 0 rfl rfl ?_
  obtain ⟨r2, er2, hF⟩ := qbind hF
  have kr2 : qok R r2 11 := hW.get ha0 er2 rfl
  refine aw_getr fl_X4_11 (by decide) fg_X4_0 ha0 er2 rfl dX4_lastRow_9 ?_
  refine aw_iload_n dX4_lastRow_12 1 rfl rfl ?_
  obtain ⟨r3, er3, hF⟩ := qbind hF
  have kr3 : qok R r3 5 := hW.elem kr2 er3
  refine aw_aaldq kr2 er3 dX4_lastRow_13 ?_
  refine aw_geti fl_X4_83 (by decide) fg_X5_1 kr3 rfl dX4_lastRow_14 ?_
  refine aw_iadd dX4_lastRow_17 ?_
  refine aw_iconst (v := (1 : Int32)) dX4_lastRow_18 (by decide) ?_
  refine aw_isub dX4_lastRow_19 ?_
  obtain ⟨x4, ex4, hF⟩ := qbind hF
  refine aw_ialdq kr1 ex4 dX4_lastRow_20 ?_
  cases hF
  exact aw_iret rfl dX4_lastRow_21 rfl rfl rfl
def cX4_planLanes_22 (N : Nat) (R : qR) (b0 : Nat) (v1 : Int32) (v2 : Int32) (I : qI) : Option ((Int32 × qI) ⊕ (qI)) :=
  if (I b0 6) ≤ v2 then
    (some (.inr I))
  else
    ((fX4_firstRow R I b0 v2).bind fun y6 =>
    if y6 = v1 then
      ((R.1 b0 5).bind fun r8 =>
      (fX4_lastRow R I b0 v2).bind fun y9 =>
      (fX1_give N R I r8 v2 v1 y9).bind fun y10 =>
      some (.inl ((v2 + 1), y10)))
    else
      (some (.inl ((v2 + 1), I))))
set_option maxHeartbeats 4000000 in
set_option maxRecDepth 100000 in
theorem tX4_planLanes_22 {l : Launch} {G : qG} {N : Nat} {R : qR} {As : List Value} {rv : Option Value} {I1 : qI} {b0 : Nat} {v1 : Int32} (hW : qWT R) (hb0 : qok R b0 4) {o : qI} (hx : AW (Zm l G mX4_planLanes 3 As R rv I1 R) 59 [(0, .ref (G.1 + b0)), (1, .int v1)] [] o R) : ∀ n s, qloop (fun s => cX4_planLanes_22 N R b0 v1 s.1 s.2) n s = some o → (match s with | (v2, I) => AW (Zm l G mX4_planLanes 3 As R rv I1 R) 22 [(0, .ref (G.1 + b0)), (1, .int v1), (2, .int v2)] [] I R) := by
  apply qloop_ind
  intro s x hF hc he
  obtain ⟨v2, I⟩ := s
  change cX4_planLanes_22 N R b0 v1 v2 I = some x at hF
  unfold cX4_planLanes_22 at hF
  show AW _ 22 [(0, .ref (G.1 + b0)), (1, .int v1), (2, .int v2)] [] I R
  refine aw_iload_n dX4_planLanes_22 2 rfl rfl ?_
  refine aw_aload_n dX4_planLanes_23 0 rfl rfl ?_
  refine aw_geti fl_X4_50 (by decide) fg_X4_6 hb0 rfl dX4_planLanes_24 ?_
  refine aw_icmp_ge (tgt := 59) dX4_planLanes_27 (by decide) (fun c5 => ?_) (fun c5 => ?_)
  · rw [if_pos c5] at hF
    cases hF
    have hE := he _ rfl
    subst hE
    exact aw_sub [0, 1] rfl hx
  · rw [if_neg c5] at hF
    refine aw_aload_n dX4_planLanes_30 0 rfl rfl ?_
    refine aw_iload_n dX4_planLanes_31 2 rfl rfl ?_
    obtain ⟨y6, ey6, hF⟩ := qbind hF
    refine aw_callVi (As := [.int v2]) (sX4_firstRow hW hb0 ey6) cl_X4_76 rfl (qroomL (by decide) (by decide)) rfl hb0 (Nat.le_of_ble_eq_true rfl) dX4_planLanes_32 rfl ?_
    refine aw_iload_n dX4_planLanes_35 1 rfl rfl ?_
    refine aw_icmp_ne (tgt := 53) dX4_planLanes_36 (by decide) (fun c7 => ?_) (fun c7 => ?_)
    · rw [if_neg c7] at hF
      refine aw_iinc (q := 2) (v := (v2 + 1)) (lv' := [(2, .int (v2 + 1)), (0, .ref (G.1 + b0)), (1, .int v1)]) dX4_planLanes_53 rfl rfl (Nat.le_of_ble_eq_true rfl) rfl ?_
      refine aw_goto (tgt := 22) dX4_planLanes_56 (by decide) ?_
      cases hF
      exact aw_sub [1, 2, 0] rfl (hc ((v2 + 1), I) rfl)
    · rw [if_pos c7] at hF
      refine aw_aload_n dX4_planLanes_39 0 rfl rfl ?_
      obtain ⟨r8, er8, hF⟩ := qbind hF
      have kr8 : qok R r8 1 := hW.get hb0 er8 rfl
      refine aw_getr fl_X4_41 (by decide) fg_X4_5 hb0 er8 rfl dX4_planLanes_40 ?_
      refine aw_iload_n dX4_planLanes_43 2 rfl rfl ?_
      refine aw_iload_n dX4_planLanes_44 1 rfl rfl ?_
      refine aw_aload_n dX4_planLanes_45 0 rfl rfl ?_
      refine aw_iload_n dX4_planLanes_46 2 rfl rfl ?_
      obtain ⟨y9, ey9, hF⟩ := qbind hF
      refine aw_callVi (As := [.int v2]) (sX4_lastRow hW hb0 ey9) cl_X4_80 rfl (qroomL (by decide) (by decide)) rfl hb0 (Nat.le_of_ble_eq_true rfl) dX4_planLanes_47 rfl ?_
      obtain ⟨y10, ey10, hF⟩ := qbind hF
      refine aw_callVv (As := [.int v2, .int v1, .int y9]) (sX1_give hW kr8 ey10) cl_X4_118 rfl (qroomL (by decide) (by decide)) rfl kr8 (Nat.le_of_ble_eq_true rfl) dX4_planLanes_50 rfl ?_
      refine aw_iinc (q := 2) (v := (v2 + 1)) (lv' := [(2, .int (v2 + 1)), (0, .ref (G.1 + b0)), (1, .int v1)]) dX4_planLanes_53 rfl rfl (Nat.le_of_ble_eq_true rfl) rfl ?_
      refine aw_goto (tgt := 22) dX4_planLanes_56 (by decide) ?_
      cases hF
      exact aw_sub [1, 2, 0] rfl (hc ((v2 + 1), y10) rfl)
def cX4_planLanes_9 (N : Nat) (R : qR) (b0 : Nat) (v1 : Int32) (I : qI) : Option ((Int32 × qI) ⊕ (qI)) :=
  (R.1 b0 3).bind fun r3 =>
  if (I r3 0) ≤ v1 then
    (some (.inr I))
  else
    ((qloop (fun s => cX4_planLanes_22 N R b0 v1 s.1 s.2) N ((0 : Int32), I)).bind fun o11 =>
    some (.inl ((v1 + 1), o11)))
set_option maxHeartbeats 4000000 in
set_option maxRecDepth 100000 in
theorem tX4_planLanes_9 {l : Launch} {G : qG} {N : Nat} {R : qR} {As : List Value} {rv : Option Value} {I1 : qI} {b0 : Nat} (hW : qWT R) (hb0 : qok R b0 4) {o : qI} (hx : AW (Zm l G mX4_planLanes 3 As R rv I1 R) 65 [] [] o R) : ∀ n s, qloop (fun s => cX4_planLanes_9 N R b0 s.1 s.2) n s = some o → (match s with | (v1, I) => AW (Zm l G mX4_planLanes 3 As R rv I1 R) 9 [(0, .ref (G.1 + b0)), (1, .int v1)] [] I R) := by
  apply qloop_ind
  intro s x hF hc he
  obtain ⟨v1, I⟩ := s
  change cX4_planLanes_9 N R b0 v1 I = some x at hF
  unfold cX4_planLanes_9 at hF
  show AW _ 9 [(0, .ref (G.1 + b0)), (1, .int v1)] [] I R
  refine aw_iload_n dX4_planLanes_9 1 rfl rfl ?_
  refine aw_aload_n dX4_planLanes_10 0 rfl rfl ?_
  obtain ⟨r3, er3, hF⟩ := qbind hF
  have kr3 : qok R r3 2 := hW.get hb0 er3 rfl
  refine aw_getr fl_X4_27 (by decide) fg_X4_3 hb0 er3 rfl dX4_planLanes_11 ?_
  refine aw_geti fl_X4_67 (by decide) fg_X2_0 kr3 rfl dX4_planLanes_14 ?_
  refine aw_icmp_ge (tgt := 65) dX4_planLanes_17 (by decide) (fun c4 => ?_) (fun c4 => ?_)
  · rw [if_pos c4] at hF
    cases hF
    have hE := he _ rfl
    subst hE
    exact aw_sub [] rfl hx
  · rw [if_neg c4] at hF
    refine aw_iconst (v := (0 : Int32)) dX4_planLanes_20 (by decide) ?_
    refine aw_istore_n (lv' := [(2, .int (0 : Int32)), (0, .ref (G.1 + b0)), (1, .int v1)]) dX4_planLanes_21 rfl (Nat.le_of_ble_eq_true rfl) rfl ?_
    obtain ⟨o11, eo11, hF⟩ := qbind hF
    refine aw_sub [1, 2, 0] rfl (tX4_planLanes_22 hW hb0 (o := o11) ?_ N ((0 : Int32), I) eo11)
    show AW _ 59 [(0, .ref (G.1 + b0)), (1, .int v1)] [] o11 R
    refine aw_iinc (q := 1) (v := (v1 + 1)) (lv' := [(1, .int (v1 + 1)), (0, .ref (G.1 + b0))]) dX4_planLanes_59 rfl rfl (Nat.le_of_ble_eq_true rfl) rfl ?_
    refine aw_goto (tgt := 9) dX4_planLanes_62 (by decide) ?_
    cases hF
    exact aw_sub [1, 0] rfl (hc ((v1 + 1), o11) rfl)
def fX4_planLanes (N : Nat) (R : qR) (I : qI) (a0 : Nat) : Option (qI) :=
  (R.1 a0 5).bind fun r1 =>
  (fX1_clear N R I r1).bind fun y2 =>
  (qloop (fun s => cX4_planLanes_9 N R a0 s.1 s.2) N ((0 : Int32), y2)).bind fun o12 =>
  some o12
set_option maxHeartbeats 4000000 in
set_option maxRecDepth 100000 in
theorem sX4_planLanes {l : Launch} {G : qG} {N : Nat} {R : qR} {I : qI} {a0 : Nat} {rI : qI} (hW : qWT R) (ha0 : qok R a0 4) (hF : fX4_planLanes N R I a0 = some rI) : qMt l G mX4_planLanes 3 [.ref (G.1 + a0)] I R (none) rI R := by
  unfold fX4_planLanes at hF
  refine qMt_of (by decide) (Nat.le_of_ble_eq_true rfl) ⟨Nat.le_refl _, Nat.le_refl _⟩ ?_
  show AW _ 0 [(0, .ref (G.1 + a0))] [] I R
  refine aw_aload_n dX4_planLanes_0 0 rfl rfl ?_
  obtain ⟨r1, er1, hF⟩ := qbind hF
  have kr1 : qok R r1 1 := hW.get ha0 er1 rfl
  refine aw_getr fl_X4_41 (by decide) fg_X4_5 ha0 er1 rfl dX4_planLanes_1 ?_
  obtain ⟨y2, ey2, hF⟩ := qbind hF
  refine aw_callVv (As := []) (sX1_clear hW kr1 ey2) cl_X4_115 rfl (qroomL (by decide) (by decide)) rfl kr1 (Nat.le_of_ble_eq_true rfl) dX4_planLanes_4 rfl ?_
  refine aw_iconst (v := (0 : Int32)) dX4_planLanes_7 (by decide) ?_
  refine aw_istore_n (lv' := [(1, .int (0 : Int32)), (0, .ref (G.1 + a0))]) dX4_planLanes_8 rfl (Nat.le_of_ble_eq_true rfl) rfl ?_
  obtain ⟨o12, eo12, hF⟩ := qbind hF
  refine aw_sub [1, 0] rfl (tX4_planLanes_9 hW ha0 (o := o12) ?_ N ((0 : Int32), y2) eo12)
  show AW _ 65 [] [] o12 R
  cases hF
  exact aw_vret rfl dX4_planLanes_65 rfl rfl rfl
def fX5_copy (R : qR) (I : qI) (a0 : Nat) (a1 : Nat) : Option (qI) :=
  qlet (qup I a0 0 (I a1 0)) fun I1 =>
  qlet (qup I1 a0 1 (I1 a1 1)) fun I2 =>
  (R.1 a1 2).bind fun r3 =>
  (R.1 a0 2).bind fun r4 =>
  (qcy I2 R r3 (0 : Int32) r4 (0 : Int32) (7 : Int32)).bind fun I5 =>
  (R.1 a1 3).bind fun r6 =>
  (R.1 a0 3).bind fun r7 =>
  (qcy I5 R r6 (0 : Int32) r7 (0 : Int32) (7 : Int32)).bind fun I8 =>
  (R.1 a1 4).bind fun r9 =>
  (R.1 a0 4).bind fun r10 =>
  (qcy I8 R r9 (0 : Int32) r10 (0 : Int32) (7 : Int32)).bind fun I11 =>
  (R.1 a1 5).bind fun r12 =>
  (R.1 a0 5).bind fun r13 =>
  (qcy I11 R r12 (0 : Int32) r13 (0 : Int32) (12 : Int32)).bind fun I14 =>
  some I14
set_option maxHeartbeats 4000000 in
set_option maxRecDepth 100000 in
theorem sX5_copy {l : Launch} {G : qG} {R : qR} {I : qI} {a0 : Nat} {a1 : Nat} {rI : qI} (hW : qWT R) (ha0 : qok R a0 5) (ha1 : qok R a1 5) (hF : fX5_copy R I a0 a1 = some rI) : qMt l G mX5_copy 1 [.ref (G.1 + a0), .ref (G.1 + a1)] I R (none) rI R := by
  unfold fX5_copy at hF
  refine qMt_of (by decide) (Nat.le_of_ble_eq_true rfl) ⟨Nat.le_refl _, Nat.le_refl _⟩ ?_
  show AW _ 0 [(0, .ref (G.1 + a0)), (1, .ref (G.1 + a1))] [] I R
  refine aw_aload_n dX5_copy_0 0 rfl rfl ?_
  refine aw_aload_n dX5_copy_1 1 rfl rfl ?_
  refine aw_geti fl_X5_36 (by decide) fg_X5_0 ha1 rfl dX5_copy_2 ?_
  obtain ⟨I1, eI1, hF⟩ := qletE hF
  refine aw_putiq fl_X5_36 (by decide) fs_X5_0 fn_X5_0 ft_X5_0 ha0 eI1 rfl dX5_copy_5 ?_
  refine aw_aload_n dX5_copy_8 0 rfl rfl ?_
  refine aw_aload_n dX5_copy_9 1 rfl rfl ?_
  refine aw_geti fl_X5_30 (by decide) fg_X5_1 ha1 rfl dX5_copy_10 ?_
  obtain ⟨I2, eI2, hF⟩ := qletE hF
  refine aw_putiq fl_X5_30 (by decide) fs_X5_1 fn_X5_1 ft_X5_1 ha0 eI2 rfl dX5_copy_13 ?_
  refine aw_aload_n dX5_copy_16 1 rfl rfl ?_
  obtain ⟨r3, er3, hF⟩ := qbind hF
  have kr3 : qok R r3 9 := hW.get ha1 er3 rfl
  refine aw_getr fl_X5_9 (by decide) fg_X5_2 ha1 er3 rfl dX5_copy_17 ?_
  refine aw_iconst (v := (0 : Int32)) dX5_copy_20 (by decide) ?_
  refine aw_aload_n dX5_copy_21 0 rfl rfl ?_
  obtain ⟨r4, er4, hF⟩ := qbind hF
  have kr4 : qok R r4 9 := hW.get ha0 er4 rfl
  refine aw_getr fl_X5_9 (by decide) fg_X5_2 ha0 er4 rfl dX5_copy_22 ?_
  refine aw_iconst (v := (0 : Int32)) dX5_copy_25 (by decide) ?_
  refine aw_bipush (v := (7 : Int32)) dX5_copy_26 (by decide) ?_
  obtain ⟨I5, eI5, hF⟩ := qbind hF
  refine aw_copyq cl_X5_43 rfl kr3 kr4 eI5 (Nat.le_of_ble_eq_true rfl) (Nat.le_of_ble_eq_true rfl) (Nat.le_of_ble_eq_true rfl) dX5_copy_28 ?_
  refine aw_aload_n dX5_copy_31 1 rfl rfl ?_
  obtain ⟨r6, er6, hF⟩ := qbind hF
  have kr6 : qok R r6 9 := hW.get ha1 er6 rfl
  refine aw_getr fl_X5_15 (by decide) fg_X5_3 ha1 er6 rfl dX5_copy_32 ?_
  refine aw_iconst (v := (0 : Int32)) dX5_copy_35 (by decide) ?_
  refine aw_aload_n dX5_copy_36 0 rfl rfl ?_
  obtain ⟨r7, er7, hF⟩ := qbind hF
  have kr7 : qok R r7 9 := hW.get ha0 er7 rfl
  refine aw_getr fl_X5_15 (by decide) fg_X5_3 ha0 er7 rfl dX5_copy_37 ?_
  refine aw_iconst (v := (0 : Int32)) dX5_copy_40 (by decide) ?_
  refine aw_bipush (v := (7 : Int32)) dX5_copy_41 (by decide) ?_
  obtain ⟨I8, eI8, hF⟩ := qbind hF
  refine aw_copyq cl_X5_43 rfl kr6 kr7 eI8 (Nat.le_of_ble_eq_true rfl) (Nat.le_of_ble_eq_true rfl) (Nat.le_of_ble_eq_true rfl) dX5_copy_43 ?_
  refine aw_aload_n dX5_copy_46 1 rfl rfl ?_
  obtain ⟨r9, er9, hF⟩ := qbind hF
  have kr9 : qok R r9 9 := hW.get ha1 er9 rfl
  refine aw_getr fl_X5_18 (by decide) fg_X5_4 ha1 er9 rfl dX5_copy_47 ?_
  refine aw_iconst (v := (0 : Int32)) dX5_copy_50 (by decide) ?_
  refine aw_aload_n dX5_copy_51 0 rfl rfl ?_
  obtain ⟨r10, er10, hF⟩ := qbind hF
  have kr10 : qok R r10 9 := hW.get ha0 er10 rfl
  refine aw_getr fl_X5_18 (by decide) fg_X5_4 ha0 er10 rfl dX5_copy_52 ?_
  refine aw_iconst (v := (0 : Int32)) dX5_copy_55 (by decide) ?_
  refine aw_bipush (v := (7 : Int32)) dX5_copy_56 (by decide) ?_
  obtain ⟨I11, eI11, hF⟩ := qbind hF
  refine aw_copyq cl_X5_43 rfl kr9 kr10 eI11 (Nat.le_of_ble_eq_true rfl) (Nat.le_of_ble_eq_true rfl) (Nat.le_of_ble_eq_true rfl) dX5_copy_58 ?_
  refine aw_aload_n dX5_copy_61 1 rfl rfl ?_
  obtain ⟨r12, er12, hF⟩ := qbind hF
  have kr12 : qok R r12 9 := hW.get ha1 er12 rfl
  refine aw_getr fl_X5_21 (by decide) fg_X5_5 ha1 er12 rfl dX5_copy_62 ?_
  refine aw_iconst (v := (0 : Int32)) dX5_copy_65 (by decide) ?_
  refine aw_aload_n dX5_copy_66 0 rfl rfl ?_
  obtain ⟨r13, er13, hF⟩ := qbind hF
  have kr13 : qok R r13 9 := hW.get ha0 er13 rfl
  refine aw_getr fl_X5_21 (by decide) fg_X5_5 ha0 er13 rfl dX5_copy_67 ?_
  refine aw_iconst (v := (0 : Int32)) dX5_copy_70 (by decide) ?_
  refine aw_bipush (v := (12 : Int32)) dX5_copy_71 (by decide) ?_
  obtain ⟨I14, eI14, hF⟩ := qbind hF
  refine aw_copyq cl_X5_43 rfl kr12 kr13 eI14 (Nat.le_of_ble_eq_true rfl) (Nat.le_of_ble_eq_true rfl) (Nat.le_of_ble_eq_true rfl) dX5_copy_73 ?_
  cases hF
  exact aw_vret rfl dX5_copy_76 rfl rfl rfl
