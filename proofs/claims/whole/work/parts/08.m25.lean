def cX8_firstTrain_3 (N : Nat) (R : qR) (b0 : Nat) (v1 : Int32) (v2 : Int32) (v3 : Int32) (v4 : Int32) (v5 : Int32) (v6 : Int32) (I : qI) : Option ((Int32 × qI) ⊕ ((qI) ⊕ (Int32 × qI))) :=
  if (I b0 1) ≤ v6 then
    (some (.inr (.inl I)))
  else
    ((fX8_runs R I b0 v6 v3).bind fun y2 =>
    if y2 = 0 then
      (some (.inl ((v6 + 1), I)))
    else
      ((fX8_leavesAt N R I b0 v6 v1 v2 v4 v5).bind fun y4 =>
      if y4.1 = 0 then
        (some (.inl ((v6 + 1), y4.2)))
      else
        (some (.inr (.inr (v6, y4.2))))))
set_option maxHeartbeats 4000000 in
set_option maxRecDepth 100000 in
theorem tX8_firstTrain_3 {l : Launch} {G : qG} {N : Nat} {R : qR} {As : List Value} {rv : Option Value} {I1 : qI} {b0 : Nat} {v1 : Int32} {v2 : Int32} {v3 : Int32} {v4 : Int32} {v5 : Int32} (hW : qWT R) (hb0 : qok R b0 8) {o : (qI) ⊕ (Int32 × qI)} (hx : match o with | .inl z0 => AW (Zm l G mX8_firstTrain 4 As R rv I1 R) 46 [] [] z0 R | .inr (rrv, rrI) => rv = some (.int rrv) ∧ I1 = rrI) : ∀ n s, qloop (fun s => cX8_firstTrain_3 N R b0 v1 v2 v3 v4 v5 s.1 s.2) n s = some o → (match s with | (v6, I) => AW (Zm l G mX8_firstTrain 4 As R rv I1 R) 3 [(0, .ref (G.1 + b0)), (1, .int v1), (2, .int v2), (3, .int v3), (4, .int v4), (5, .int v5), (6, .int v6)] [] I R) := by
  apply qloop_ind
  intro s x hF hc he
  obtain ⟨v6, I⟩ := s
  change cX8_firstTrain_3 N R b0 v1 v2 v3 v4 v5 v6 I = some x at hF
  unfold cX8_firstTrain_3 at hF
  show AW _ 3 [(0, .ref (G.1 + b0)), (1, .int v1), (2, .int v2), (3, .int v3), (4, .int v4), (5, .int v5), (6, .int v6)] [] I R
  refine aw_iload dX8_firstTrain_3 6 rfl ?_
  refine aw_aload_n dX8_firstTrain_5 0 rfl rfl ?_
  refine aw_geti fl_X8_97 (by decide) fg_X8_1 hb0 rfl dX8_firstTrain_6 ?_
  refine aw_icmp_ge (tgt := 46) dX8_firstTrain_9 (by decide) (fun c1 => ?_) (fun c1 => ?_)
  · rw [if_pos c1] at hF
    cases hF
    have hE := he _ rfl
    subst hE
    exact aw_sub [] rfl hx
  · rw [if_neg c1] at hF
    refine aw_aload_n dX8_firstTrain_12 0 rfl rfl ?_
    refine aw_iload dX8_firstTrain_13 6 rfl ?_
    refine aw_iload_n dX8_firstTrain_15 3 rfl rfl ?_
    obtain ⟨y2, ey2, hF⟩ := qbind hF
    refine aw_callVi (As := [.int v6, .int v3]) (sX8_runs hW hb0 ey2) cl_X8_179 rfl (qroomL (by decide) (by decide)) rfl hb0 (Nat.le_of_ble_eq_true rfl) dX8_firstTrain_16 rfl ?_
    refine aw_if_eq (tgt := 40) dX8_firstTrain_19 (by decide) (fun c3 => ?_) (fun c3 => ?_)
    · rw [if_pos c3] at hF
      refine aw_iinc (q := 6) (v := (v6 + 1)) (lv' := [(6, .int (v6 + 1)), (0, .ref (G.1 + b0)), (1, .int v1), (2, .int v2), (3, .int v3), (4, .int v4), (5, .int v5)]) dX8_firstTrain_40 rfl rfl (Nat.le_of_ble_eq_true rfl) rfl ?_
      refine aw_goto (tgt := 3) dX8_firstTrain_43 (by decide) ?_
      cases hF
      exact aw_sub [1, 2, 3, 4, 5, 6, 0] rfl (hc ((v6 + 1), I) rfl)
    · rw [if_neg c3] at hF
      refine aw_aload_n dX8_firstTrain_22 0 rfl rfl ?_
      refine aw_iload dX8_firstTrain_23 6 rfl ?_
      refine aw_iload_n dX8_firstTrain_25 1 rfl rfl ?_
      refine aw_iload_n dX8_firstTrain_26 2 rfl rfl ?_
      refine aw_iload dX8_firstTrain_27 4 rfl ?_
      refine aw_iload dX8_firstTrain_29 5 rfl ?_
      obtain ⟨y4, ey4, hF⟩ := qbind hF
      refine aw_callVi (As := [.int v6, .int v1, .int v2, .int v4, .int v5]) (sX8_leavesAt hW hb0 ey4) cl_X8_200 rfl (qroomL (by decide) (by decide)) rfl hb0 (Nat.le_of_ble_eq_true rfl) dX8_firstTrain_31 rfl ?_
      refine aw_if_eq (tgt := 40) dX8_firstTrain_34 (by decide) (fun c5 => ?_) (fun c5 => ?_)
      · rw [if_pos c5] at hF
        refine aw_iinc (q := 6) (v := (v6 + 1)) (lv' := [(6, .int (v6 + 1)), (0, .ref (G.1 + b0)), (1, .int v1), (2, .int v2), (3, .int v3), (4, .int v4), (5, .int v5)]) dX8_firstTrain_40 rfl rfl (Nat.le_of_ble_eq_true rfl) rfl ?_
        refine aw_goto (tgt := 3) dX8_firstTrain_43 (by decide) ?_
        cases hF
        exact aw_sub [1, 2, 3, 4, 5, 6, 0] rfl (hc ((v6 + 1), y4.2) rfl)
      · rw [if_neg c5] at hF
        refine aw_iload dX8_firstTrain_37 6 rfl ?_
        cases hF
        have hE := he _ rfl
        subst hE
        exact aw_iret rfl dX8_firstTrain_39 hx.1 hx.2 rfl
def fX8_firstTrain (N : Nat) (R : qR) (I : qI) (a0 : Nat) (p1 : Int32) (p2 : Int32) (p3 : Int32) (p4 : Int32) (p5 : Int32) : Option (Int32 × qI) :=
  (qloop (fun s => cX8_firstTrain_3 N R a0 p1 p2 p3 p4 p5 s.1 s.2) N ((0 : Int32), I)).bind fun o6 =>
  qx o6 (fun e7 =>
    some ((-1 : Int32), e7)) (fun q8 => some q8)
set_option maxHeartbeats 4000000 in
set_option maxRecDepth 100000 in
theorem sX8_firstTrain {l : Launch} {G : qG} {N : Nat} {R : qR} {I : qI} {a0 : Nat} {p1 : Int32} {p2 : Int32} {p3 : Int32} {p4 : Int32} {p5 : Int32} {rv : Int32} {rI : qI} (hW : qWT R) (ha0 : qok R a0 8) (hF : fX8_firstTrain N R I a0 p1 p2 p3 p4 p5 = some (rv, rI)) : qMt l G mX8_firstTrain 4 [.ref (G.1 + a0), .int p1, .int p2, .int p3, .int p4, .int p5] I R (some (.int rv)) rI R := by
  unfold fX8_firstTrain at hF
  refine qMt_of (by decide) (Nat.le_of_ble_eq_true rfl) ⟨Nat.le_refl _, Nat.le_refl _⟩ ?_
  show AW _ 0 [(0, .ref (G.1 + a0)), (1, .int p1), (2, .int p2), (3, .int p3), (4, .int p4), (5, .int p5)] [] I R
  refine aw_iconst (v := (0 : Int32)) dX8_firstTrain_0 (by decide) ?_
  refine aw_istore (lv' := [(6, .int (0 : Int32)), (0, .ref (G.1 + a0)), (1, .int p1), (2, .int p2), (3, .int p3), (4, .int p4), (5, .int p5)]) dX8_firstTrain_1 (Nat.le_of_ble_eq_true rfl) rfl ?_
  obtain ⟨o6, eo6, hF⟩ := qbind hF
  refine aw_sub [1, 2, 3, 4, 5, 6, 0] rfl (tX8_firstTrain_3 hW ha0 (o := o6) ?_ N ((0 : Int32), I) eo6)
  cases o6 with
  | inl e7 =>
    replace hF := qxl hF
    show AW _ 46 [] [] e7 R
    refine aw_iconst (v := (-1 : Int32)) dX8_firstTrain_46 (by decide) ?_
    cases hF
    exact aw_iret rfl dX8_firstTrain_47 rfl rfl rfl
  | inr q8 =>
    replace hF := qxr hF
    cases hF
    exact ⟨rfl, rfl⟩
def cX8_boardOf_3 (N : Nat) (R : qR) (I : qI) (b0 : Nat) (v1 : Int32) (v2 : Int32) (v3 : Int32) (v4 : Int32) (v5 : Int32) (v6 : Int32) : Option ((Int32) ⊕ ((Unit) ⊕ (Int32))) :=
  (R.1 b0 4).bind fun r1 =>
  (qrd I R r1 v1).bind fun x2 =>
  if x2 ≤ v6 then
    (some (.inr (.inl ())))
  else
    (if v2 = 0 then
      ((R.1 b0 5).bind fun r7 =>
      (qrd I R r7 (((7 : Int32) * v1) + v6)).bind fun x8 =>
      if x8 = v4 then
        ((R.1 b0 7).bind fun r10 =>
        (qrd I R r10 (((7 : Int32) * v1) + v6)).bind fun x11 =>
        if x11 < v5 then
          (some (.inl (v6 + 1)))
        else
          (some (.inr (.inr v6))))
      else
        (some (.inl (v6 + 1))))
    else
      ((fX8_canChange R I b0 v3 (((7 : Int32) * v1) + v6)).bind fun y5 =>
      if y5 = 0 then
        (some (.inl (v6 + 1)))
      else
        (some (.inr (.inr v6)))))
set_option maxHeartbeats 4000000 in
set_option maxRecDepth 100000 in
theorem tX8_boardOf_3 {l : Launch} {G : qG} {N : Nat} {R : qR} {I : qI} {As : List Value} {rv : Option Value} {b0 : Nat} {v1 : Int32} {v2 : Int32} {v3 : Int32} {v4 : Int32} {v5 : Int32} (hW : qWT R) (hb0 : qok R b0 8) {o : (Unit) ⊕ (Int32)} (hx : match o with | .inl _ => AW (Zm l G mX8_boardOf 2 As R rv I R) 73 [] [] I R | .inr rrv => rv = some (.int rrv) ∧ True) : ∀ n s, qloop (fun s => cX8_boardOf_3 N R I b0 v1 v2 v3 v4 v5 s) n s = some o → AW (Zm l G mX8_boardOf 2 As R rv I R) 3 [(0, .ref (G.1 + b0)), (1, .int v1), (2, .int v2), (3, .int v3), (4, .int v4), (5, .int v5), (6, .int s)] [] I R := by
  apply qloop_ind
  intro s x hF hc he
  obtain ⟨v6, rfl⟩ : ∃ z, z = s := ⟨s, rfl⟩
  change cX8_boardOf_3 N R I b0 v1 v2 v3 v4 v5 v6 = some x at hF
  unfold cX8_boardOf_3 at hF
  show AW _ 3 [(0, .ref (G.1 + b0)), (1, .int v1), (2, .int v2), (3, .int v3), (4, .int v4), (5, .int v5), (6, .int v6)] [] I R
  refine aw_iload dX8_boardOf_3 6 rfl ?_
  refine aw_aload_n dX8_boardOf_5 0 rfl rfl ?_
  obtain ⟨r1, er1, hF⟩ := qbind hF
  have kr1 : qok R r1 9 := hW.get hb0 er1 rfl
  refine aw_getr fl_X8_17 (by decide) fg_X8_4 hb0 er1 rfl dX8_boardOf_6 ?_
  refine aw_iload_n dX8_boardOf_9 1 rfl rfl ?_
  obtain ⟨x2, ex2, hF⟩ := qbind hF
  refine aw_ialdq kr1 ex2 dX8_boardOf_10 ?_
  refine aw_icmp_ge (tgt := 73) dX8_boardOf_11 (by decide) (fun c3 => ?_) (fun c3 => ?_)
  · rw [if_pos c3] at hF
    cases hF
    have hE := he _ rfl
    subst hE
    exact aw_sub [] rfl hx
  · rw [if_neg c3] at hF
    refine aw_bipush (v := (7 : Int32)) dX8_boardOf_14 (by decide) ?_
    refine aw_iload_n dX8_boardOf_16 1 rfl rfl ?_
    refine aw_imul dX8_boardOf_17 ?_
    refine aw_iload dX8_boardOf_18 6 rfl ?_
    refine aw_iadd dX8_boardOf_20 ?_
    refine aw_istore (lv' := [(7, .int (((7 : Int32) * v1) + v6)), (0, .ref (G.1 + b0)), (1, .int v1), (2, .int v2), (3, .int v3), (4, .int v4), (5, .int v5), (6, .int v6)]) dX8_boardOf_21 (Nat.le_of_ble_eq_true rfl) rfl ?_
    refine aw_iload_n dX8_boardOf_23 3 rfl rfl ?_
    refine aw_if_ne (tgt := 54) dX8_boardOf_24 (by decide) (fun c4 => ?_) (fun c4 => ?_)
    · rw [if_neg c4] at hF
      refine aw_aload_n dX8_boardOf_54 1 rfl rfl ?_
      refine aw_iload_n dX8_boardOf_55 4 rfl rfl ?_
      refine aw_iload dX8_boardOf_56 0 rfl ?_
      obtain ⟨y5, ey5, hF⟩ := qbind hF
      refine aw_callVi (As := [.int v3, .int (((7 : Int32) * v1) + v6)]) (sX8_canChange hW hb0 ey5) cl_X8_182 rfl (qroomL (by decide) (by decide)) rfl hb0 (Nat.le_of_ble_eq_true rfl) dX8_boardOf_58 rfl ?_
      refine aw_if_eq (tgt := 67) dX8_boardOf_61 (by decide) (fun c6 => ?_) (fun c6 => ?_)
      · rw [if_pos c6] at hF
        refine aw_iinc (q := 7) (v := (v6 + 1)) (lv' := [(6, .int (v6 + 1)), (7, .int (((7 : Int32) * v1) + v6)), (0, .ref (G.1 + b0)), (1, .int v1), (2, .int v2), (3, .int v3), (4, .int v4), (5, .int v5)]) dX8_boardOf_67 rfl rfl (Nat.le_of_ble_eq_true rfl) rfl ?_
        refine aw_goto (tgt := 3) dX8_boardOf_70 (by decide) ?_
        cases hF
        exact aw_sub [2, 3, 4, 5, 6, 7, 0] rfl (hc (v6 + 1) rfl)
      · rw [if_neg c6] at hF
        refine aw_iload dX8_boardOf_64 7 rfl ?_
        cases hF
        have hE := he _ rfl
        subst hE
        exact aw_iret rfl dX8_boardOf_66 hx.1 rfl rfl
    · rw [if_pos c4] at hF
      refine aw_aload_n dX8_boardOf_27 1 rfl rfl ?_
      obtain ⟨r7, er7, hF⟩ := qbind hF
      have kr7 : qok R r7 9 := hW.get hb0 er7 rfl
      refine aw_getr fl_X8_20 (by decide) fg_X8_5 hb0 er7 rfl dX8_boardOf_28 ?_
      refine aw_iload dX8_boardOf_31 0 rfl ?_
      obtain ⟨x8, ex8, hF⟩ := qbind hF
      refine aw_ialdq kr7 ex8 dX8_boardOf_33 ?_
      refine aw_iload dX8_boardOf_34 5 rfl ?_
      refine aw_icmp_ne (tgt := 67) dX8_boardOf_36 (by decide) (fun c9 => ?_) (fun c9 => ?_)
      · rw [if_neg c9] at hF
        refine aw_iinc (q := 7) (v := (v6 + 1)) (lv' := [(6, .int (v6 + 1)), (7, .int (((7 : Int32) * v1) + v6)), (0, .ref (G.1 + b0)), (1, .int v1), (2, .int v2), (3, .int v3), (4, .int v4), (5, .int v5)]) dX8_boardOf_67 rfl rfl (Nat.le_of_ble_eq_true rfl) rfl ?_
        refine aw_goto (tgt := 3) dX8_boardOf_70 (by decide) ?_
        cases hF
        exact aw_sub [2, 3, 4, 5, 6, 7, 0] rfl (hc (v6 + 1) rfl)
      · rw [if_pos c9] at hF
        refine aw_aload_n dX8_boardOf_39 1 rfl rfl ?_
        obtain ⟨r10, er10, hF⟩ := qbind hF
        have kr10 : qok R r10 9 := hW.get hb0 er10 rfl
        refine aw_getr fl_X8_26 (by decide) fg_X8_7 hb0 er10 rfl dX8_boardOf_40 ?_
        refine aw_iload dX8_boardOf_43 0 rfl ?_
        obtain ⟨x11, ex11, hF⟩ := qbind hF
        refine aw_ialdq kr10 ex11 dX8_boardOf_45 ?_
        refine aw_iload dX8_boardOf_46 6 rfl ?_
        refine aw_icmp_lt (tgt := 67) dX8_boardOf_48 (by decide) (fun c12 => ?_) (fun c12 => ?_)
        · rw [if_pos c12] at hF
          refine aw_iinc (q := 7) (v := (v6 + 1)) (lv' := [(6, .int (v6 + 1)), (7, .int (((7 : Int32) * v1) + v6)), (0, .ref (G.1 + b0)), (1, .int v1), (2, .int v2), (3, .int v3), (4, .int v4), (5, .int v5)]) dX8_boardOf_67 rfl rfl (Nat.le_of_ble_eq_true rfl) rfl ?_
          refine aw_goto (tgt := 3) dX8_boardOf_70 (by decide) ?_
          cases hF
          exact aw_sub [2, 3, 4, 5, 6, 7, 0] rfl (hc (v6 + 1) rfl)
        · rw [if_neg c12] at hF
          refine aw_goto (tgt := 64) dX8_boardOf_51 (by decide) ?_
          refine aw_iload dX8_boardOf_64 7 rfl ?_
          cases hF
          have hE := he _ rfl
          subst hE
          exact aw_iret rfl dX8_boardOf_66 hx.1 rfl rfl
def fX8_boardOf (N : Nat) (R : qR) (I : qI) (a0 : Nat) (p1 : Int32) (p2 : Int32) (p3 : Int32) (p4 : Int32) (p5 : Int32) : Option (Int32) :=
  (qloop (fun s => cX8_boardOf_3 N R I a0 p1 p2 p3 p4 p5 s) N (0 : Int32)).bind fun o13 =>
  qx o13 (fun e14 =>
    some (-1 : Int32)) (fun q15 => some q15)
set_option maxHeartbeats 4000000 in
set_option maxRecDepth 100000 in
theorem sX8_boardOf {l : Launch} {G : qG} {N : Nat} {R : qR} {I : qI} {a0 : Nat} {p1 : Int32} {p2 : Int32} {p3 : Int32} {p4 : Int32} {p5 : Int32} {rv : Int32} (hW : qWT R) (ha0 : qok R a0 8) (hF : fX8_boardOf N R I a0 p1 p2 p3 p4 p5 = some rv) : qMt l G mX8_boardOf 2 [.ref (G.1 + a0), .int p1, .int p2, .int p3, .int p4, .int p5] I R (some (.int rv)) I R := by
  unfold fX8_boardOf at hF
  refine qMt_of (by decide) (Nat.le_of_ble_eq_true rfl) ⟨Nat.le_refl _, Nat.le_refl _⟩ ?_
  show AW _ 0 [(0, .ref (G.1 + a0)), (1, .int p1), (2, .int p2), (3, .int p3), (4, .int p4), (5, .int p5)] [] I R
  refine aw_iconst (v := (0 : Int32)) dX8_boardOf_0 (by decide) ?_
  refine aw_istore (lv' := [(6, .int (0 : Int32)), (0, .ref (G.1 + a0)), (1, .int p1), (2, .int p2), (3, .int p3), (4, .int p4), (5, .int p5)]) dX8_boardOf_1 (Nat.le_of_ble_eq_true rfl) rfl ?_
  obtain ⟨o13, eo13, hF⟩ := qbind hF
  refine aw_sub [1, 2, 3, 4, 5, 6, 0] rfl (tX8_boardOf_3 hW ha0 (o := o13) ?_ N (0 : Int32) eo13)
  cases o13 with
  | inl e14 =>
    replace hF := qxl hF
    show AW _ 73 [] [] I R
    refine aw_iconst (v := (-1 : Int32)) dX8_boardOf_73 (by decide) ?_
    cases hF
    exact aw_iret rfl dX8_boardOf_74 rfl rfl rfl
  | inr q15 =>
    replace hF := qxr hF
    cases hF
    exact ⟨rfl, trivial⟩
def cX8_restGoes_3 (N : Nat) (R : qR) (b0 : Nat) (v1 : Int32) (v2 : Int32) (v3 : Int32) (v4 : Int32) (I : qI) : Option ((Int32 × qI) ⊕ (qI)) :=
  if (70 : Int32) ≤ v4 then
    (some (.inr I))
  else
    ((R.1 b0 32).bind fun r2 =>
    if v4 = v1 then
      ((qwz I R r2 v4 (1 : Int32)).bind fun I5 =>
      some (.inl ((v4 + 1), I5)))
    else
      ((qwz I R r2 v4 (0 : Int32)).bind fun I4 =>
      some (.inl ((v4 + 1), I4))))
set_option maxHeartbeats 4000000 in
set_option maxRecDepth 100000 in
theorem tX8_restGoes_3 {l : Launch} {G : qG} {N : Nat} {R : qR} {As : List Value} {rv : Option Value} {I1 : qI} {b0 : Nat} {v1 : Int32} {v2 : Int32} {v3 : Int32} (hW : qWT R) (hb0 : qok R b0 8) {o : qI} (hx : AW (Zm l G mX8_restGoes 2 As R rv I1 R) 34 [(0, .ref (G.1 + b0)), (2, .int v2), (3, .int v3)] [] o R) : ∀ n s, qloop (fun s => cX8_restGoes_3 N R b0 v1 v2 v3 s.1 s.2) n s = some o → (match s with | (v4, I) => AW (Zm l G mX8_restGoes 2 As R rv I1 R) 3 [(0, .ref (G.1 + b0)), (1, .int v1), (2, .int v2), (3, .int v3), (4, .int v4)] [] I R) := by
  apply qloop_ind
  intro s x hF hc he
  obtain ⟨v4, I⟩ := s
  change cX8_restGoes_3 N R b0 v1 v2 v3 v4 I = some x at hF
  unfold cX8_restGoes_3 at hF
  show AW _ 3 [(0, .ref (G.1 + b0)), (1, .int v1), (2, .int v2), (3, .int v3), (4, .int v4)] [] I R
  refine aw_iload dX8_restGoes_3 4 rfl ?_
  refine aw_bipush (v := (70 : Int32)) dX8_restGoes_5 (by decide) ?_
  refine aw_icmp_ge (tgt := 34) dX8_restGoes_7 (by decide) (fun c1 => ?_) (fun c1 => ?_)
  · rw [if_pos c1] at hF
    cases hF
    have hE := he _ rfl
    subst hE
    exact aw_sub [0, 2, 3] rfl hx
  · rw [if_neg c1] at hF
    refine aw_aload_n dX8_restGoes_10 0 rfl rfl ?_
    obtain ⟨r2, er2, hF⟩ := qbind hF
    have kr2 : qok R r2 10 := hW.get hb0 er2 rfl
    refine aw_getr fl_X8_88 (by decide) fg_X8_32 hb0 er2 rfl dX8_restGoes_11 ?_
    refine aw_iload dX8_restGoes_14 4 rfl ?_
    refine aw_iload dX8_restGoes_16 4 rfl ?_
    refine aw_iload_n dX8_restGoes_18 1 rfl rfl ?_
    refine aw_icmp_ne (tgt := 26) dX8_restGoes_19 (by decide) (fun c3 => ?_) (fun c3 => ?_)
    · rw [if_neg c3] at hF
      refine aw_iconst (v := (0 : Int32)) dX8_restGoes_26 (by decide) ?_
      obtain ⟨I4, eI4, hF⟩ := qbind hF
      refine aw_zastq kr2 eI4 dX8_restGoes_27 ?_
      refine aw_iinc (q := 4) (v := (v4 + 1)) (lv' := [(4, .int (v4 + 1)), (0, .ref (G.1 + b0)), (1, .int v1), (2, .int v2), (3, .int v3)]) dX8_restGoes_28 rfl rfl (Nat.le_of_ble_eq_true rfl) rfl ?_
      refine aw_goto (tgt := 3) dX8_restGoes_31 (by decide) ?_
      cases hF
      exact aw_sub [1, 2, 3, 4, 0] rfl (hc ((v4 + 1), I4) rfl)
    · rw [if_pos c3] at hF
      refine aw_iconst (v := (1 : Int32)) dX8_restGoes_22 (by decide) ?_
      refine aw_goto (tgt := 27) dX8_restGoes_23 (by decide) ?_
      obtain ⟨I5, eI5, hF⟩ := qbind hF
      refine aw_zastq kr2 eI5 dX8_restGoes_27 ?_
      refine aw_iinc (q := 4) (v := (v4 + 1)) (lv' := [(4, .int (v4 + 1)), (0, .ref (G.1 + b0)), (1, .int v1), (2, .int v2), (3, .int v3)]) dX8_restGoes_28 rfl rfl (Nat.le_of_ble_eq_true rfl) rfl ?_
      refine aw_goto (tgt := 3) dX8_restGoes_31 (by decide) ?_
      cases hF
      exact aw_sub [1, 2, 3, 4, 0] rfl (hc ((v4 + 1), I5) rfl)
def cX8_restGoes_66 (N : Nat) (R : qR) (b0 : Nat) (v3 : Int32) (v4 : Int32) (v5 : Int32) (v6 : Int32) (v7 : Int32) (v8 : Int32) (I : qI) : Option ((Int32 × qI) ⊕ (qI)) :=
  if (70 : Int32) ≤ v8 then
    (some (.inr I))
  else
    ((R.1 b0 31).bind fun r11 =>
    (qwz I R r11 v8 (0 : Int32)).bind fun I12 =>
    some (.inl ((v8 + 1), I12)))
set_option maxHeartbeats 4000000 in
set_option maxRecDepth 100000 in
theorem tX8_restGoes_66 {l : Launch} {G : qG} {N : Nat} {R : qR} {As : List Value} {rv : Option Value} {I1 : qI} {b0 : Nat} {v3 : Int32} {v4 : Int32} {v5 : Int32} {v6 : Int32} {v7 : Int32} (hW : qWT R) (hb0 : qok R b0 8) {o : qI} (hx : AW (Zm l G mX8_restGoes 2 As R rv I1 R) 87 [(0, .ref (G.1 + b0)), (3, .int v3), (4, .int v4), (5, .int v5), (6, .int v6), (7, .int v7)] [] o R) : ∀ n s, qloop (fun s => cX8_restGoes_66 N R b0 v3 v4 v5 v6 v7 s.1 s.2) n s = some o → (match s with | (v8, I) => AW (Zm l G mX8_restGoes 2 As R rv I1 R) 66 [(0, .ref (G.1 + b0)), (3, .int v3), (4, .int v4), (5, .int v5), (6, .int v6), (7, .int v7), (8, .int v8)] [] I R) := by
  apply qloop_ind
  intro s x hF hc he
  obtain ⟨v8, I⟩ := s
  change cX8_restGoes_66 N R b0 v3 v4 v5 v6 v7 v8 I = some x at hF
  unfold cX8_restGoes_66 at hF
  show AW _ 66 [(0, .ref (G.1 + b0)), (3, .int v3), (4, .int v4), (5, .int v5), (6, .int v6), (7, .int v7), (8, .int v8)] [] I R
  refine aw_iload dX8_restGoes_66 6 rfl ?_
  refine aw_bipush (v := (70 : Int32)) dX8_restGoes_68 (by decide) ?_
  refine aw_icmp_ge (tgt := 87) dX8_restGoes_70 (by decide) (fun c10 => ?_) (fun c10 => ?_)
  · rw [if_pos c10] at hF
    cases hF
    have hE := he _ rfl
    subst hE
    exact aw_sub [0, 1, 2, 3, 4, 5] rfl hx
  · rw [if_neg c10] at hF
    refine aw_aload_n dX8_restGoes_73 0 rfl rfl ?_
    obtain ⟨r11, er11, hF⟩ := qbind hF
    have kr11 : qok R r11 10 := hW.get hb0 er11 rfl
    refine aw_getr fl_X8_85 (by decide) fg_X8_31 hb0 er11 rfl dX8_restGoes_74 ?_
    refine aw_iload dX8_restGoes_77 6 rfl ?_
    refine aw_iconst (v := (0 : Int32)) dX8_restGoes_79 (by decide) ?_
    obtain ⟨I12, eI12, hF⟩ := qbind hF
    refine aw_zastq kr11 eI12 dX8_restGoes_80 ?_
    refine aw_iinc (q := 6) (v := (v8 + 1)) (lv' := [(8, .int (v8 + 1)), (0, .ref (G.1 + b0)), (3, .int v3), (4, .int v4), (5, .int v5), (6, .int v6), (7, .int v7)]) dX8_restGoes_81 rfl rfl (Nat.le_of_ble_eq_true rfl) rfl ?_
    refine aw_goto (tgt := 66) dX8_restGoes_84 (by decide) ?_
    cases hF
    exact aw_sub [1, 2, 3, 4, 5, 6, 0] rfl (hc ((v8 + 1), I12) rfl)
def cX8_restGoes_131 (N : Nat) (R : qR) (I : qI) (b0 : Nat) (v3 : Int32) (v4 : Int32) (v5 : Int32) (v7 : Int32) (v8 : Int32) (v9 : Int32) (v6 : Int32) (v10 : Int32) : Option ((Int32 × Int32) ⊕ (Int32)) :=
  if (70 : Int32) ≤ v10 then
    (some (.inr v6))
  else
    (if v6 = 0 then
      ((R.1 b0 32).bind fun r20 =>
      (qrd I R r20 v10).bind fun x21 =>
      if x21 = 0 then
        (some (.inl ((0 : Int32), (v10 + 1))))
      else
        ((fX8_canChange R I b0 v10 v9).bind fun y23 =>
        if y23 = 0 then
          (some (.inl ((0 : Int32), (v10 + 1))))
        else
          (some (.inl ((1 : Int32), (v10 + 1))))))
    else
      (some (.inr v6)))
set_option maxHeartbeats 4000000 in
set_option maxRecDepth 100000 in
theorem tX8_restGoes_131 {l : Launch} {G : qG} {N : Nat} {R : qR} {I : qI} {As : List Value} {rv : Option Value} {I1 : qI} {b0 : Nat} {v3 : Int32} {v4 : Int32} {v5 : Int32} {v7 : Int32} {v8 : Int32} {v9 : Int32} (hW : qWT R) (hb0 : qok R b0 8) {o : Int32} (hx : AW (Zm l G mX8_restGoes 2 As R rv I1 R) 177 [(0, .ref (G.1 + b0)), (3, .int v3), (4, .int v4), (5, .int v5), (6, .int o), (7, .int v7), (8, .int v8)] [] I R) : ∀ n s, qloop (fun s => cX8_restGoes_131 N R I b0 v3 v4 v5 v7 v8 v9 s.1 s.2) n s = some o → (match s with | (v6, v10) => AW (Zm l G mX8_restGoes 2 As R rv I1 R) 131 [(0, .ref (G.1 + b0)), (3, .int v3), (4, .int v4), (5, .int v5), (6, .int v6), (7, .int v7), (8, .int v8), (9, .int v9), (10, .int v10)] [] I R) := by
  apply qloop_ind
  intro s x hF hc he
  obtain ⟨v6, v10⟩ := s
  change cX8_restGoes_131 N R I b0 v3 v4 v5 v7 v8 v9 v6 v10 = some x at hF
  unfold cX8_restGoes_131 at hF
  show AW _ 131 [(0, .ref (G.1 + b0)), (3, .int v3), (4, .int v4), (5, .int v5), (6, .int v6), (7, .int v7), (8, .int v8), (9, .int v9), (10, .int v10)] [] I R
  refine aw_iload dX8_restGoes_131 8 rfl ?_
  refine aw_bipush (v := (70 : Int32)) dX8_restGoes_133 (by decide) ?_
  refine aw_icmp_ge (tgt := 177) dX8_restGoes_135 (by decide) (fun c18 => ?_) (fun c18 => ?_)
  · rw [if_pos c18] at hF
    cases hF
    have hE := he _ rfl
    subst hE
    exact aw_sub [0, 1, 2, 3, 4, 5, 6] rfl hx
  · rw [if_neg c18] at hF
    refine aw_iload dX8_restGoes_138 4 rfl ?_
    refine aw_if_ne (tgt := 177) dX8_restGoes_140 (by decide) (fun c19 => ?_) (fun c19 => ?_)
    · rw [if_neg c19] at hF
      cases hF
      have hE := he _ rfl
      subst hE
      exact aw_sub [0, 1, 2, 3, 4, 5, 6] rfl hx
    · rw [if_pos c19] at hF
      refine aw_aload_n dX8_restGoes_143 0 rfl rfl ?_
      obtain ⟨r20, er20, hF⟩ := qbind hF
      have kr20 : qok R r20 10 := hW.get hb0 er20 rfl
      refine aw_getr fl_X8_88 (by decide) fg_X8_32 hb0 er20 rfl dX8_restGoes_144 ?_
      refine aw_iload dX8_restGoes_147 8 rfl ?_
      obtain ⟨x21, ex21, hF⟩ := qbind hF
      refine aw_zaldq kr20 ex21 dX8_restGoes_149 ?_
      refine aw_if_eq (tgt := 168) dX8_restGoes_150 (by decide) (fun c22 => ?_) (fun c22 => ?_)
      · rw [if_pos c22] at hF
        refine aw_iconst (v := (0 : Int32)) dX8_restGoes_168 (by decide) ?_
        refine aw_istore (lv' := [(6, .int (0 : Int32)), (0, .ref (G.1 + b0)), (3, .int v3), (4, .int v4), (5, .int v5), (7, .int v7), (8, .int v8), (9, .int v9), (10, .int v10)]) dX8_restGoes_169 (Nat.le_of_ble_eq_true rfl) rfl ?_
        refine aw_iinc (q := 8) (v := (v10 + 1)) (lv' := [(10, .int (v10 + 1)), (6, .int (0 : Int32)), (0, .ref (G.1 + b0)), (3, .int v3), (4, .int v4), (5, .int v5), (7, .int v7), (8, .int v8), (9, .int v9)]) dX8_restGoes_171 rfl rfl (Nat.le_of_ble_eq_true rfl) rfl ?_
        refine aw_goto (tgt := 131) dX8_restGoes_174 (by decide) ?_
        cases hF
        exact aw_sub [2, 3, 4, 5, 1, 6, 7, 8, 0] rfl (hc ((0 : Int32), (v10 + 1)) rfl)
      · rw [if_neg c22] at hF
        refine aw_aload_n dX8_restGoes_153 0 rfl rfl ?_
        refine aw_iload dX8_restGoes_154 8 rfl ?_
        refine aw_iload dX8_restGoes_156 7 rfl ?_
        obtain ⟨y23, ey23, hF⟩ := qbind hF
        refine aw_callVi (As := [.int v10, .int v9]) (sX8_canChange hW hb0 ey23) cl_X8_182 rfl (qroomL (by decide) (by decide)) rfl hb0 (Nat.le_of_ble_eq_true rfl) dX8_restGoes_158 rfl ?_
        refine aw_if_eq (tgt := 168) dX8_restGoes_161 (by decide) (fun c24 => ?_) (fun c24 => ?_)
        · rw [if_pos c24] at hF
          refine aw_iconst (v := (0 : Int32)) dX8_restGoes_168 (by decide) ?_
          refine aw_istore (lv' := [(6, .int (0 : Int32)), (0, .ref (G.1 + b0)), (3, .int v3), (4, .int v4), (5, .int v5), (7, .int v7), (8, .int v8), (9, .int v9), (10, .int v10)]) dX8_restGoes_169 (Nat.le_of_ble_eq_true rfl) rfl ?_
          refine aw_iinc (q := 8) (v := (v10 + 1)) (lv' := [(10, .int (v10 + 1)), (6, .int (0 : Int32)), (0, .ref (G.1 + b0)), (3, .int v3), (4, .int v4), (5, .int v5), (7, .int v7), (8, .int v8), (9, .int v9)]) dX8_restGoes_171 rfl rfl (Nat.le_of_ble_eq_true rfl) rfl ?_
          refine aw_goto (tgt := 131) dX8_restGoes_174 (by decide) ?_
          cases hF
          exact aw_sub [2, 3, 4, 5, 1, 6, 7, 8, 0] rfl (hc ((0 : Int32), (v10 + 1)) rfl)
        · rw [if_neg c24] at hF
          refine aw_iconst (v := (1 : Int32)) dX8_restGoes_164 (by decide) ?_
          refine aw_goto (tgt := 169) dX8_restGoes_165 (by decide) ?_
          refine aw_istore (lv' := [(6, .int (1 : Int32)), (0, .ref (G.1 + b0)), (3, .int v3), (4, .int v4), (5, .int v5), (7, .int v7), (8, .int v8), (9, .int v9), (10, .int v10)]) dX8_restGoes_169 (Nat.le_of_ble_eq_true rfl) rfl ?_
          refine aw_iinc (q := 8) (v := (v10 + 1)) (lv' := [(10, .int (v10 + 1)), (6, .int (1 : Int32)), (0, .ref (G.1 + b0)), (3, .int v3), (4, .int v4), (5, .int v5), (7, .int v7), (8, .int v8), (9, .int v9)]) dX8_restGoes_171 rfl rfl (Nat.le_of_ble_eq_true rfl) rfl ?_
          refine aw_goto (tgt := 131) dX8_restGoes_174 (by decide) ?_
          cases hF
          exact aw_sub [2, 3, 4, 5, 1, 6, 7, 8, 0] rfl (hc ((1 : Int32), (v10 + 1)) rfl)
def cX8_restGoes_90 (N : Nat) (R : qR) (b0 : Nat) (v3 : Int32) (v4 : Int32) (v5 : Int32) (v6 : Int32) (v7 : Int32) (v8 : Int32) (I : qI) : Option ((Int32 × Int32 × Int32 × qI) ⊕ (Int32 × qI)) :=
  (R.1 b0 4).bind fun r14 =>
  (qrd I R r14 v5).bind fun x15 =>
  if x15 ≤ v8 then
    (some (.inr (v7, I)))
  else
    (if v6 = 0 then
      ((qloop (fun s => cX8_restGoes_131 N R I b0 v3 v4 v5 v7 v8 (((7 : Int32) * v5) + v8) s.1 s.2) N (v6, (0 : Int32))).bind fun o25 =>
      some (.inl (o25, v7, (v8 + 1), I)))
    else
      ((R.1 b0 31).bind fun r26 =>
      (qwz I R r26 (((7 : Int32) * v5) + v8) (1 : Int32)).bind fun I27 =>
      (qloop (fun s => cX8_restGoes_131 N R I27 b0 v3 v4 v5 (1 : Int32) v8 (((7 : Int32) * v5) + v8) s.1 s.2) N (v6, (0 : Int32))).bind fun o28 =>
      some (.inl (o28, (1 : Int32), (v8 + 1), I27))))
set_option maxHeartbeats 4000000 in
set_option maxRecDepth 100000 in
theorem tX8_restGoes_90 {l : Launch} {G : qG} {N : Nat} {R : qR} {As : List Value} {rv : Option Value} {I1 : qI} {b0 : Nat} {v3 : Int32} {v4 : Int32} {v5 : Int32} (hW : qWT R) (hb0 : qok R b0 8) {o : Int32 × qI} (hx : match o with | (z0, z1) => AW (Zm l G mX8_restGoes 2 As R rv I1 R) 183 [(0, .ref (G.1 + b0)), (3, .int v3), (4, .int v4), (7, .int z0)] [] z1 R) : ∀ n s, qloop (fun s => cX8_restGoes_90 N R b0 v3 v4 v5 s.1 s.2.1 s.2.2.1 s.2.2.2) n s = some o → (match s with | (v6, v7, v8, I) => AW (Zm l G mX8_restGoes 2 As R rv I1 R) 90 [(0, .ref (G.1 + b0)), (3, .int v3), (4, .int v4), (5, .int v5), (6, .int v6), (7, .int v7), (8, .int v8)] [] I R) := by
  apply qloop_ind
  intro s x hF hc he
  obtain ⟨v6, v7, v8, I⟩ := s
  change cX8_restGoes_90 N R b0 v3 v4 v5 v6 v7 v8 I = some x at hF
  unfold cX8_restGoes_90 at hF
  show AW _ 90 [(0, .ref (G.1 + b0)), (3, .int v3), (4, .int v4), (5, .int v5), (6, .int v6), (7, .int v7), (8, .int v8)] [] I R
  refine aw_iload dX8_restGoes_90 6 rfl ?_
  refine aw_aload_n dX8_restGoes_92 0 rfl rfl ?_
  obtain ⟨r14, er14, hF⟩ := qbind hF
  have kr14 : qok R r14 9 := hW.get hb0 er14 rfl
  refine aw_getr fl_X8_17 (by decide) fg_X8_4 hb0 er14 rfl dX8_restGoes_93 ?_
  refine aw_iload dX8_restGoes_96 3 rfl ?_
  obtain ⟨x15, ex15, hF⟩ := qbind hF
  refine aw_ialdq kr14 ex15 dX8_restGoes_98 ?_
  refine aw_icmp_ge (tgt := 183) dX8_restGoes_99 (by decide) (fun c16 => ?_) (fun c16 => ?_)
  · rw [if_pos c16] at hF
    cases hF
    have hE := he _ rfl
    subst hE
    exact aw_sub [0, 1, 2, 5] rfl hx
  · rw [if_neg c16] at hF
    refine aw_bipush (v := (7 : Int32)) dX8_restGoes_102 (by decide) ?_
    refine aw_iload dX8_restGoes_104 3 rfl ?_
    refine aw_imul dX8_restGoes_106 ?_
    refine aw_iload dX8_restGoes_107 6 rfl ?_
    refine aw_iadd dX8_restGoes_109 ?_
    refine aw_istore (lv' := [(9, .int (((7 : Int32) * v5) + v8)), (0, .ref (G.1 + b0)), (3, .int v3), (4, .int v4), (5, .int v5), (6, .int v6), (7, .int v7), (8, .int v8)]) dX8_restGoes_110 (Nat.le_of_ble_eq_true rfl) rfl ?_
    refine aw_iload dX8_restGoes_112 5 rfl ?_
    refine aw_if_eq (tgt := 128) dX8_restGoes_114 (by decide) (fun c17 => ?_) (fun c17 => ?_)
    · rw [if_pos c17] at hF
      refine aw_iconst (v := (0 : Int32)) dX8_restGoes_128 (by decide) ?_
      refine aw_istore (lv' := [(10, .int (0 : Int32)), (9, .int (((7 : Int32) * v5) + v8)), (0, .ref (G.1 + b0)), (3, .int v3), (4, .int v4), (5, .int v5), (6, .int v6), (7, .int v7), (8, .int v8)]) dX8_restGoes_129 (Nat.le_of_ble_eq_true rfl) rfl ?_
      obtain ⟨o25, eo25, hF⟩ := qbind hF
      refine aw_sub [2, 3, 4, 5, 6, 7, 8, 1, 0] rfl (tX8_restGoes_131 hW hb0 (o := o25) ?_ N (v6, (0 : Int32)) eo25)
      show AW _ 177 [(0, .ref (G.1 + b0)), (3, .int v3), (4, .int v4), (5, .int v5), (6, .int o25), (7, .int v7), (8, .int v8)] [] I R
      refine aw_iinc (q := 6) (v := (v8 + 1)) (lv' := [(8, .int (v8 + 1)), (0, .ref (G.1 + b0)), (3, .int v3), (4, .int v4), (5, .int v5), (6, .int o25), (7, .int v7)]) dX8_restGoes_177 rfl rfl (Nat.le_of_ble_eq_true rfl) rfl ?_
      refine aw_goto (tgt := 90) dX8_restGoes_180 (by decide) ?_
      cases hF
      exact aw_sub [1, 2, 3, 4, 5, 6, 0] rfl (hc (o25, v7, (v8 + 1), I) rfl)
    · rw [if_neg c17] at hF
      refine aw_aload_n dX8_restGoes_117 1 rfl rfl ?_
      obtain ⟨r26, er26, hF⟩ := qbind hF
      have kr26 : qok R r26 10 := hW.get hb0 er26 rfl
      refine aw_getr fl_X8_85 (by decide) fg_X8_31 hb0 er26 rfl dX8_restGoes_118 ?_
      refine aw_iload dX8_restGoes_121 0 rfl ?_
      refine aw_iconst (v := (1 : Int32)) dX8_restGoes_123 (by decide) ?_
      obtain ⟨I27, eI27, hF⟩ := qbind hF
      refine aw_zastq kr26 eI27 dX8_restGoes_124 ?_
      refine aw_iconst (v := (1 : Int32)) dX8_restGoes_125 (by decide) ?_
      refine aw_istore (lv' := [(7, .int (1 : Int32)), (9, .int (((7 : Int32) * v5) + v8)), (0, .ref (G.1 + b0)), (3, .int v3), (4, .int v4), (5, .int v5), (6, .int v6), (8, .int v8)]) dX8_restGoes_126 (Nat.le_of_ble_eq_true rfl) rfl ?_
      refine aw_iconst (v := (0 : Int32)) dX8_restGoes_128 (by decide) ?_
      refine aw_istore (lv' := [(10, .int (0 : Int32)), (7, .int (1 : Int32)), (9, .int (((7 : Int32) * v5) + v8)), (0, .ref (G.1 + b0)), (3, .int v3), (4, .int v4), (5, .int v5), (6, .int v6), (8, .int v8)]) dX8_restGoes_129 (Nat.le_of_ble_eq_true rfl) rfl ?_
      obtain ⟨o28, eo28, hF⟩ := qbind hF
      refine aw_sub [3, 4, 5, 6, 7, 1, 8, 2, 0] rfl (tX8_restGoes_131 hW hb0 (o := o28) ?_ N (v6, (0 : Int32)) eo28)
      show AW _ 177 [(0, .ref (G.1 + b0)), (3, .int v3), (4, .int v4), (5, .int v5), (6, .int o28), (7, .int (1 : Int32)), (8, .int v8)] [] I27 R
      refine aw_iinc (q := 6) (v := (v8 + 1)) (lv' := [(8, .int (v8 + 1)), (0, .ref (G.1 + b0)), (3, .int v3), (4, .int v4), (5, .int v5), (6, .int o28), (7, .int (1 : Int32))]) dX8_restGoes_177 rfl rfl (Nat.le_of_ble_eq_true rfl) rfl ?_
      refine aw_goto (tgt := 90) dX8_restGoes_180 (by decide) ?_
      cases hF
      exact aw_sub [1, 2, 3, 4, 5, 6, 0] rfl (hc (o28, (1 : Int32), (v8 + 1), I27) rfl)
def cX8_restGoes_193 (N : Nat) (R : qR) (b0 : Nat) (v3 : Int32) (v4 : Int32) (v8 : Int32) (I : qI) : Option ((Int32 × qI) ⊕ (qI)) :=
  if (70 : Int32) ≤ v8 then
    (some (.inr I))
  else
    ((R.1 b0 32).bind fun r32 =>
    (R.1 b0 31).bind fun r33 =>
    (qrd I R r33 v8).bind fun x34 =>
    (qwz I R r32 v8 x34).bind fun I35 =>
    some (.inl ((v8 + 1), I35)))
set_option maxHeartbeats 4000000 in
set_option maxRecDepth 100000 in
theorem tX8_restGoes_193 {l : Launch} {G : qG} {N : Nat} {R : qR} {As : List Value} {rv : Option Value} {I1 : qI} {b0 : Nat} {v3 : Int32} {v4 : Int32} (hW : qWT R) (hb0 : qok R b0 8) {o : qI} (hx : AW (Zm l G mX8_restGoes 2 As R rv I1 R) 220 [(0, .ref (G.1 + b0)), (3, .int v3), (4, .int v4)] [] o R) : ∀ n s, qloop (fun s => cX8_restGoes_193 N R b0 v3 v4 s.1 s.2) n s = some o → (match s with | (v8, I) => AW (Zm l G mX8_restGoes 2 As R rv I1 R) 193 [(0, .ref (G.1 + b0)), (3, .int v3), (4, .int v4), (8, .int v8)] [] I R) := by
  apply qloop_ind
  intro s x hF hc he
  obtain ⟨v8, I⟩ := s
  change cX8_restGoes_193 N R b0 v3 v4 v8 I = some x at hF
  unfold cX8_restGoes_193 at hF
  show AW _ 193 [(0, .ref (G.1 + b0)), (3, .int v3), (4, .int v4), (8, .int v8)] [] I R
  refine aw_iload dX8_restGoes_193 3 rfl ?_
  refine aw_bipush (v := (70 : Int32)) dX8_restGoes_195 (by decide) ?_
  refine aw_icmp_ge (tgt := 220) dX8_restGoes_197 (by decide) (fun c31 => ?_) (fun c31 => ?_)
  · rw [if_pos c31] at hF
    cases hF
    have hE := he _ rfl
    subst hE
    exact aw_sub [0, 1, 2] rfl hx
  · rw [if_neg c31] at hF
    refine aw_aload_n dX8_restGoes_200 0 rfl rfl ?_
    obtain ⟨r32, er32, hF⟩ := qbind hF
    have kr32 : qok R r32 10 := hW.get hb0 er32 rfl
    refine aw_getr fl_X8_88 (by decide) fg_X8_32 hb0 er32 rfl dX8_restGoes_201 ?_
    refine aw_iload dX8_restGoes_204 3 rfl ?_
    refine aw_aload_n dX8_restGoes_206 0 rfl rfl ?_
    obtain ⟨r33, er33, hF⟩ := qbind hF
    have kr33 : qok R r33 10 := hW.get hb0 er33 rfl
    refine aw_getr fl_X8_85 (by decide) fg_X8_31 hb0 er33 rfl dX8_restGoes_207 ?_
    refine aw_iload dX8_restGoes_210 3 rfl ?_
    obtain ⟨x34, ex34, hF⟩ := qbind hF
    refine aw_zaldq kr33 ex34 dX8_restGoes_212 ?_
    obtain ⟨I35, eI35, hF⟩ := qbind hF
    refine aw_zastq kr32 eI35 dX8_restGoes_213 ?_
    refine aw_iinc (q := 3) (v := (v8 + 1)) (lv' := [(8, .int (v8 + 1)), (0, .ref (G.1 + b0)), (3, .int v3), (4, .int v4)]) dX8_restGoes_214 rfl rfl (Nat.le_of_ble_eq_true rfl) rfl ?_
    refine aw_goto (tgt := 193) dX8_restGoes_217 (by decide) ?_
    cases hF
    exact aw_sub [1, 2, 3, 0] rfl (hc ((v8 + 1), I35) rfl)
def cX8_restGoes_39 (N : Nat) (R : qR) (b0 : Nat) (v3 : Int32) (v4 : Int32) (I : qI) : Option ((Int32 × qI) ⊕ ((qI) ⊕ (Int32 × qI))) :=
  if (I b0 25) ≤ v4 then
    (some (.inr (.inl I)))
  else
    ((R.1 b0 27).bind fun r8 =>
    (qrd I R r8 v4).bind fun x9 =>
    (qloop (fun s => cX8_restGoes_66 N R b0 v3 v4 x9 (0 : Int32) (0 : Int32) s.1 s.2) N ((0 : Int32), I)).bind fun o13 =>
    (qloop (fun s => cX8_restGoes_90 N R b0 v3 v4 x9 s.1 s.2.1 s.2.2.1 s.2.2.2) N ((0 : Int32), (0 : Int32), (0 : Int32), o13)).bind fun o29 =>
    if o29.1 = 0 then
      (some (.inr (.inr ((0 : Int32), o29.2))))
    else
      ((qloop (fun s => cX8_restGoes_193 N R b0 v3 v4 s.1 s.2) N ((0 : Int32), o29.2)).bind fun o36 =>
      some (.inl ((v4 + 1), o36))))
set_option maxHeartbeats 4000000 in
set_option maxRecDepth 100000 in
theorem tX8_restGoes_39 {l : Launch} {G : qG} {N : Nat} {R : qR} {As : List Value} {rv : Option Value} {I1 : qI} {b0 : Nat} {v3 : Int32} (hW : qWT R) (hb0 : qok R b0 8) {o : (qI) ⊕ (Int32 × qI)} (hx : match o with | .inl z0 => AW (Zm l G mX8_restGoes 2 As R rv I1 R) 226 [(0, .ref (G.1 + b0)), (3, .int v3)] [] z0 R | .inr (rrv, rrI) => rv = some (.int rrv) ∧ I1 = rrI) : ∀ n s, qloop (fun s => cX8_restGoes_39 N R b0 v3 s.1 s.2) n s = some o → (match s with | (v4, I) => AW (Zm l G mX8_restGoes 2 As R rv I1 R) 39 [(0, .ref (G.1 + b0)), (3, .int v3), (4, .int v4)] [] I R) := by
  apply qloop_ind
  intro s x hF hc he
  obtain ⟨v4, I⟩ := s
  change cX8_restGoes_39 N R b0 v3 v4 I = some x at hF
  unfold cX8_restGoes_39 at hF
  show AW _ 39 [(0, .ref (G.1 + b0)), (3, .int v3), (4, .int v4)] [] I R
  refine aw_iload dX8_restGoes_39 2 rfl ?_
  refine aw_aload_n dX8_restGoes_41 0 rfl rfl ?_
  refine aw_geti fl_X8_211 (by decide) fg_X8_25 hb0 rfl dX8_restGoes_42 ?_
  refine aw_icmp_ge (tgt := 226) dX8_restGoes_45 (by decide) (fun c7 => ?_) (fun c7 => ?_)
  · rw [if_pos c7] at hF
    cases hF
    have hE := he _ rfl
    subst hE
    exact aw_sub [0, 1] rfl hx
  · rw [if_neg c7] at hF
    refine aw_aload_n dX8_restGoes_48 0 rfl rfl ?_
    obtain ⟨r8, er8, hF⟩ := qbind hF
    have kr8 : qok R r8 9 := hW.get hb0 er8 rfl
    refine aw_getr fl_X8_73 (by decide) fg_X8_27 hb0 er8 rfl dX8_restGoes_49 ?_
    refine aw_iload dX8_restGoes_52 2 rfl ?_
    obtain ⟨x9, ex9, hF⟩ := qbind hF
    refine aw_ialdq kr8 ex9 dX8_restGoes_54 ?_
    refine aw_istore (lv' := [(5, .int x9), (0, .ref (G.1 + b0)), (3, .int v3), (4, .int v4)]) dX8_restGoes_55 (Nat.le_of_ble_eq_true rfl) rfl ?_
    refine aw_iconst (v := (0 : Int32)) dX8_restGoes_57 (by decide) ?_
    refine aw_istore (lv' := [(6, .int (0 : Int32)), (5, .int x9), (0, .ref (G.1 + b0)), (3, .int v3), (4, .int v4)]) dX8_restGoes_58 (Nat.le_of_ble_eq_true rfl) rfl ?_
    refine aw_iconst (v := (0 : Int32)) dX8_restGoes_60 (by decide) ?_
    refine aw_istore (lv' := [(7, .int (0 : Int32)), (6, .int (0 : Int32)), (5, .int x9), (0, .ref (G.1 + b0)), (3, .int v3), (4, .int v4)]) dX8_restGoes_61 (Nat.le_of_ble_eq_true rfl) rfl ?_
    refine aw_iconst (v := (0 : Int32)) dX8_restGoes_63 (by decide) ?_
    refine aw_istore (lv' := [(8, .int (0 : Int32)), (7, .int (0 : Int32)), (6, .int (0 : Int32)), (5, .int x9), (0, .ref (G.1 + b0)), (3, .int v3), (4, .int v4)]) dX8_restGoes_64 (Nat.le_of_ble_eq_true rfl) rfl ?_
    obtain ⟨o13, eo13, hF⟩ := qbind hF
    refine aw_sub [4, 5, 6, 3, 2, 1, 0] rfl (tX8_restGoes_66 hW hb0 (o := o13) ?_ N ((0 : Int32), I) eo13)
    show AW _ 87 [(0, .ref (G.1 + b0)), (3, .int v3), (4, .int v4), (5, .int x9), (6, .int (0 : Int32)), (7, .int (0 : Int32))] [] o13 R
    refine aw_iconst (v := (0 : Int32)) dX8_restGoes_87 (by decide) ?_
    refine aw_istore (lv' := [(8, .int (0 : Int32)), (0, .ref (G.1 + b0)), (3, .int v3), (4, .int v4), (5, .int x9), (6, .int (0 : Int32)), (7, .int (0 : Int32))]) dX8_restGoes_88 (Nat.le_of_ble_eq_true rfl) rfl ?_
    obtain ⟨o29, eo29, hF⟩ := qbind hF
    refine aw_sub [1, 2, 3, 4, 5, 6, 0] rfl (tX8_restGoes_90 hW hb0 (o := o29) ?_ N ((0 : Int32), (0 : Int32), (0 : Int32), o13) eo29)
    show AW _ 183 [(0, .ref (G.1 + b0)), (3, .int v3), (4, .int v4), (7, .int o29.1)] [] o29.2 R
    refine aw_iload dX8_restGoes_183 3 rfl ?_
    refine aw_if_ne (tgt := 190) dX8_restGoes_185 (by decide) (fun c30 => ?_) (fun c30 => ?_)
    · rw [if_neg c30] at hF
      refine aw_iconst (v := (0 : Int32)) dX8_restGoes_190 (by decide) ?_
      refine aw_istore (lv' := [(8, .int (0 : Int32)), (0, .ref (G.1 + b0)), (3, .int v3), (4, .int v4), (7, .int o29.1)]) dX8_restGoes_191 (Nat.le_of_ble_eq_true rfl) rfl ?_
      obtain ⟨o36, eo36, hF⟩ := qbind hF
      refine aw_sub [1, 2, 3, 0] rfl (tX8_restGoes_193 hW hb0 (o := o36) ?_ N ((0 : Int32), o29.2) eo36)
      show AW _ 220 [(0, .ref (G.1 + b0)), (3, .int v3), (4, .int v4)] [] o36 R
      refine aw_iinc (q := 2) (v := (v4 + 1)) (lv' := [(4, .int (v4 + 1)), (0, .ref (G.1 + b0)), (3, .int v3)]) dX8_restGoes_220 rfl rfl (Nat.le_of_ble_eq_true rfl) rfl ?_
      refine aw_goto (tgt := 39) dX8_restGoes_223 (by decide) ?_
      cases hF
      exact aw_sub [1, 2, 0] rfl (hc ((v4 + 1), o36) rfl)
    · rw [if_pos c30] at hF
      refine aw_iconst (v := (0 : Int32)) dX8_restGoes_188 (by decide) ?_
      cases hF
      have hE := he _ rfl
      subst hE
      exact aw_zret rfl (by decide) dX8_restGoes_189 hx.1 hx.2 rfl
def cX8_restGoes_229 (N : Nat) (R : qR) (I : qI) (b0 : Nat) (v3 : Int32) (v4 : Int32) : Option ((Int32) ⊕ ((Unit) ⊕ (Int32 × qI))) :=
  if (70 : Int32) ≤ v4 then
    (some (.inr (.inl ())))
  else
    ((R.1 b0 32).bind fun r41 =>
    (qrd I R r41 v4).bind fun x42 =>
    if x42 = 0 then
      (some (.inl (v4 + 1)))
    else
      ((R.1 b0 5).bind fun r44 =>
      (qrd I R r44 v4).bind fun x45 =>
      if x45 = v3 then
        ((R.1 b0 6).bind fun r47 =>
        (qrd I R r47 v4).bind fun x48 =>
        if x48 = (I b0 26) then
          (some (.inr (.inr ((1 : Int32), I))))
        else
          (some (.inl (v4 + 1))))
      else
        (some (.inl (v4 + 1)))))
set_option maxHeartbeats 4000000 in
set_option maxRecDepth 100000 in
theorem tX8_restGoes_229 {l : Launch} {G : qG} {N : Nat} {R : qR} {I : qI} {As : List Value} {rv : Option Value} {I1 : qI} {b0 : Nat} {v3 : Int32} (hW : qWT R) (hb0 : qok R b0 8) {o : (Unit) ⊕ (Int32 × qI)} (hx : match o with | .inl _ => AW (Zm l G mX8_restGoes 2 As R rv I1 R) 279 [] [] I R | .inr (rrv, rrI) => rv = some (.int rrv) ∧ I1 = rrI) : ∀ n s, qloop (fun s => cX8_restGoes_229 N R I b0 v3 s) n s = some o → AW (Zm l G mX8_restGoes 2 As R rv I1 R) 229 [(0, .ref (G.1 + b0)), (3, .int v3), (4, .int s)] [] I R := by
  apply qloop_ind
  intro s x hF hc he
  obtain ⟨v4, rfl⟩ : ∃ z, z = s := ⟨s, rfl⟩
  change cX8_restGoes_229 N R I b0 v3 v4 = some x at hF
  unfold cX8_restGoes_229 at hF
  show AW _ 229 [(0, .ref (G.1 + b0)), (3, .int v3), (4, .int v4)] [] I R
  refine aw_iload dX8_restGoes_229 2 rfl ?_
  refine aw_bipush (v := (70 : Int32)) dX8_restGoes_231 (by decide) ?_
  refine aw_icmp_ge (tgt := 279) dX8_restGoes_233 (by decide) (fun c40 => ?_) (fun c40 => ?_)
  · rw [if_pos c40] at hF
    cases hF
    have hE := he _ rfl
    subst hE
    exact aw_sub [] rfl hx
  · rw [if_neg c40] at hF
    refine aw_aload_n dX8_restGoes_236 0 rfl rfl ?_
    obtain ⟨r41, er41, hF⟩ := qbind hF
    have kr41 : qok R r41 10 := hW.get hb0 er41 rfl
    refine aw_getr fl_X8_88 (by decide) fg_X8_32 hb0 er41 rfl dX8_restGoes_237 ?_
    refine aw_iload dX8_restGoes_240 2 rfl ?_
    obtain ⟨x42, ex42, hF⟩ := qbind hF
    refine aw_zaldq kr41 ex42 dX8_restGoes_242 ?_
    refine aw_if_eq (tgt := 273) dX8_restGoes_243 (by decide) (fun c43 => ?_) (fun c43 => ?_)
    · rw [if_pos c43] at hF
      refine aw_iinc (q := 2) (v := (v4 + 1)) (lv' := [(4, .int (v4 + 1)), (0, .ref (G.1 + b0)), (3, .int v3)]) dX8_restGoes_273 rfl rfl (Nat.le_of_ble_eq_true rfl) rfl ?_
      refine aw_goto (tgt := 229) dX8_restGoes_276 (by decide) ?_
      cases hF
      exact aw_sub [1, 2, 0] rfl (hc (v4 + 1) rfl)
    · rw [if_neg c43] at hF
      refine aw_aload_n dX8_restGoes_246 0 rfl rfl ?_
      obtain ⟨r44, er44, hF⟩ := qbind hF
      have kr44 : qok R r44 9 := hW.get hb0 er44 rfl
      refine aw_getr fl_X8_20 (by decide) fg_X8_5 hb0 er44 rfl dX8_restGoes_247 ?_
      refine aw_iload dX8_restGoes_250 2 rfl ?_
      obtain ⟨x45, ex45, hF⟩ := qbind hF
      refine aw_ialdq kr44 ex45 dX8_restGoes_252 ?_
      refine aw_iload_n dX8_restGoes_253 1 rfl rfl ?_
      refine aw_icmp_ne (tgt := 273) dX8_restGoes_254 (by decide) (fun c46 => ?_) (fun c46 => ?_)
      · rw [if_neg c46] at hF
        refine aw_iinc (q := 2) (v := (v4 + 1)) (lv' := [(4, .int (v4 + 1)), (0, .ref (G.1 + b0)), (3, .int v3)]) dX8_restGoes_273 rfl rfl (Nat.le_of_ble_eq_true rfl) rfl ?_
        refine aw_goto (tgt := 229) dX8_restGoes_276 (by decide) ?_
        cases hF
        exact aw_sub [1, 2, 0] rfl (hc (v4 + 1) rfl)
      · rw [if_pos c46] at hF
        refine aw_aload_n dX8_restGoes_257 0 rfl rfl ?_
        obtain ⟨r47, er47, hF⟩ := qbind hF
        have kr47 : qok R r47 9 := hW.get hb0 er47 rfl
        refine aw_getr fl_X8_23 (by decide) fg_X8_6 hb0 er47 rfl dX8_restGoes_258 ?_
        refine aw_iload dX8_restGoes_261 2 rfl ?_
        obtain ⟨x48, ex48, hF⟩ := qbind hF
        refine aw_ialdq kr47 ex48 dX8_restGoes_263 ?_
        refine aw_aload_n dX8_restGoes_264 0 rfl rfl ?_
        refine aw_geti fl_X8_189 (by decide) fg_X8_26 hb0 rfl dX8_restGoes_265 ?_
        refine aw_icmp_ne (tgt := 273) dX8_restGoes_268 (by decide) (fun c49 => ?_) (fun c49 => ?_)
        · rw [if_neg c49] at hF
          refine aw_iinc (q := 2) (v := (v4 + 1)) (lv' := [(4, .int (v4 + 1)), (0, .ref (G.1 + b0)), (3, .int v3)]) dX8_restGoes_273 rfl rfl (Nat.le_of_ble_eq_true rfl) rfl ?_
          refine aw_goto (tgt := 229) dX8_restGoes_276 (by decide) ?_
          cases hF
          exact aw_sub [1, 2, 0] rfl (hc (v4 + 1) rfl)
        · rw [if_pos c49] at hF
          refine aw_iconst (v := (1 : Int32)) dX8_restGoes_271 (by decide) ?_
          cases hF
          have hE := he _ rfl
          subst hE
          exact aw_zret rfl (by decide) dX8_restGoes_272 hx.1 hx.2 rfl
def fX8_restGoes (N : Nat) (R : qR) (I : qI) (a0 : Nat) (p1 : Int32) (p2 : Int32) (p3 : Int32) : Option (Int32 × qI) :=
  (qloop (fun s => cX8_restGoes_3 N R a0 p1 p2 p3 s.1 s.2) N ((0 : Int32), I)).bind fun o6 =>
  (qloop (fun s => cX8_restGoes_39 N R a0 p3 s.1 s.2) N ((p2 + (1 : Int32)), o6)).bind fun o37 =>
  qx o37 (fun e38 =>
    (qloop (fun s => cX8_restGoes_229 N R e38 a0 p3 s) N (0 : Int32)).bind fun o50 =>
    qx o50 (fun e51 =>
      some ((0 : Int32), e38)) (fun q52 => some q52)) (fun q39 => some q39)
set_option maxHeartbeats 4000000 in
set_option maxRecDepth 100000 in
theorem sX8_restGoes {l : Launch} {G : qG} {N : Nat} {R : qR} {I : qI} {a0 : Nat} {p1 : Int32} {p2 : Int32} {p3 : Int32} {rv : Int32} {rI : qI} (hW : qWT R) (ha0 : qok R a0 8) (hF : fX8_restGoes N R I a0 p1 p2 p3 = some (rv, rI)) : qMt l G mX8_restGoes 2 [.ref (G.1 + a0), .int p1, .int p2, .int p3] I R (some (.int rv)) rI R := by
  unfold fX8_restGoes at hF
  refine qMt_of (by decide) (Nat.le_of_ble_eq_true rfl) ⟨Nat.le_refl _, Nat.le_refl _⟩ ?_
  show AW _ 0 [(0, .ref (G.1 + a0)), (1, .int p1), (2, .int p2), (3, .int p3)] [] I R
  refine aw_iconst (v := (0 : Int32)) dX8_restGoes_0 (by decide) ?_
  refine aw_istore (lv' := [(4, .int (0 : Int32)), (0, .ref (G.1 + a0)), (1, .int p1), (2, .int p2), (3, .int p3)]) dX8_restGoes_1 (Nat.le_of_ble_eq_true rfl) rfl ?_
  obtain ⟨o6, eo6, hF⟩ := qbind hF
  refine aw_sub [1, 2, 3, 4, 0] rfl (tX8_restGoes_3 hW ha0 (o := o6) ?_ N ((0 : Int32), I) eo6)
  show AW _ 34 [(0, .ref (G.1 + a0)), (2, .int p2), (3, .int p3)] [] o6 R
  refine aw_iload_n dX8_restGoes_34 1 rfl rfl ?_
  refine aw_iconst (v := (1 : Int32)) dX8_restGoes_35 (by decide) ?_
  refine aw_iadd dX8_restGoes_36 ?_
  refine aw_istore (lv' := [(4, .int (p2 + (1 : Int32))), (0, .ref (G.1 + a0)), (2, .int p2), (3, .int p3)]) dX8_restGoes_37 (Nat.le_of_ble_eq_true rfl) rfl ?_
  obtain ⟨o37, eo37, hF⟩ := qbind hF
  refine aw_sub [1, 3, 0] rfl (tX8_restGoes_39 hW ha0 (o := o37) ?_ N ((p2 + (1 : Int32)), o6) eo37)
  cases o37 with
  | inl e38 =>
    replace hF := qxl hF
    show AW _ 226 [(0, .ref (G.1 + a0)), (3, .int p3)] [] e38 R
    refine aw_iconst (v := (0 : Int32)) dX8_restGoes_226 (by decide) ?_
    refine aw_istore (lv' := [(4, .int (0 : Int32)), (0, .ref (G.1 + a0)), (3, .int p3)]) dX8_restGoes_227 (Nat.le_of_ble_eq_true rfl) rfl ?_
    obtain ⟨o50, eo50, hF⟩ := qbind hF
    refine aw_sub [1, 2, 0] rfl (tX8_restGoes_229 hW ha0 (o := o50) ?_ N (0 : Int32) eo50)
    cases o50 with
    | inl e51 =>
      replace hF := qxl hF
      show AW _ 279 [] [] e38 R
      refine aw_iconst (v := (0 : Int32)) dX8_restGoes_279 (by decide) ?_
      cases hF
      exact aw_zret rfl (by decide) dX8_restGoes_280 rfl rfl rfl
    | inr q52 =>
      replace hF := qxr hF
      cases hF
      exact ⟨rfl, rfl⟩
  | inr q39 =>
    replace hF := qxr hF
    cases hF
    exact ⟨rfl, rfl⟩
