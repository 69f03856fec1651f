def cX6_firstBoard_8 (N : Nat) (R : qR) (I : qI) (b0 : Nat) (b1 : Nat) (b3 : Nat) (v4 : Int32) (v5 : Int32) (v6 : Int32) : Option ((Int32 × Int32) ⊕ (Int32)) :=
  if (I b1 1) ≤ v6 then
    (some (.inr v5))
  else
    ((fX6_canChange R I b0 b1 v6 b3 v4).bind fun y2 =>
    if y2 = 0 then
      (some (.inl (v5, (v6 + 1))))
    else
      ((R.1 b3 5).bind fun r4 =>
      (R.1 b1 2).bind fun r5 =>
      (qrd I R r5 v6).bind fun x6 =>
      (qrd I R r4 x6).bind fun x7 =>
      if v5 = (-1 : Int32) then
        (some (.inl (x7, (v6 + 1))))
      else
        (some (.inl ((if x7 < v5 then x7 else v5), (v6 + 1))))))
set_option maxHeartbeats 4000000 in
set_option maxRecDepth 100000 in
theorem tX6_firstBoard_8 {l : Launch} {G : qG} {N : Nat} {R : qR} {I : qI} {As : List Value} {rv : Option Value} {b0 : Nat} {b1 : Nat} {b3 : Nat} {v4 : Int32} (hW : qWT R) (hb0 : qok R b0 6) (hb1 : qok R b1 5) (hb3 : qok R b3 5) {o : Int32} (hx : AW (Zm l G mX6_firstBoard 2 As R rv I R) 70 [(5, .int o)] [] I R) : ∀ n s, qloop (fun s => cX6_firstBoard_8 N R I b0 b1 b3 v4 s.1 s.2) n s = some o → (match s with | (v5, v6) => AW (Zm l G mX6_firstBoard 2 As R rv I R) 8 [(0, .ref (G.1 + b0)), (1, .ref (G.1 + b1)), (3, .ref (G.1 + b3)), (4, .int v4), (5, .int v5), (6, .int v6)] [] I R) := by
  apply qloop_ind
  intro s x hF hc he
  obtain ⟨v5, v6⟩ := s
  change cX6_firstBoard_8 N R I b0 b1 b3 v4 v5 v6 = some x at hF
  unfold cX6_firstBoard_8 at hF
  show AW _ 8 [(0, .ref (G.1 + b0)), (1, .ref (G.1 + b1)), (3, .ref (G.1 + b3)), (4, .int v4), (5, .int v5), (6, .int v6)] [] I R
  refine aw_iload dX6_firstBoard_8 5 rfl ?_
  refine aw_aload_n dX6_firstBoard_10 1 rfl rfl ?_
  refine aw_geti fl_X6_111 (by decide) fg_X5_1 hb1 rfl dX6_firstBoard_11 ?_
  refine aw_icmp_ge (tgt := 70) dX6_firstBoard_14 (by decide) (fun c1 => ?_) (fun c1 => ?_)
  · rw [if_pos c1] at hF
    cases hF
    have hE := he _ rfl
    subst hE
    exact aw_sub [4] rfl hx
  · rw [if_neg c1] at hF
    refine aw_aload_n dX6_firstBoard_17 0 rfl rfl ?_
    refine aw_aload_n dX6_firstBoard_18 1 rfl rfl ?_
    refine aw_iload dX6_firstBoard_19 5 rfl ?_
    refine aw_aload_n dX6_firstBoard_21 2 rfl rfl ?_
    refine aw_iload dX6_firstBoard_22 3 rfl ?_
    obtain ⟨y2, ey2, hF⟩ := qbind hF
    refine aw_callVi (As := [.ref (G.1 + b1), .int v6, .ref (G.1 + b3), .int v4]) (sX6_canChange hW hb0 hb1 hb3 ey2) cl_X6_127 rfl (qroomL (by decide) (by decide)) rfl hb0 (Nat.le_of_ble_eq_true rfl) dX6_firstBoard_24 rfl ?_
    refine aw_if_eq (tgt := 64) dX6_firstBoard_27 (by decide) (fun c3 => ?_) (fun c3 => ?_)
    · rw [if_pos c3] at hF
      refine aw_iinc (q := 5) (v := (v6 + 1)) (lv' := [(6, .int (v6 + 1)), (0, .ref (G.1 + b0)), (1, .ref (G.1 + b1)), (3, .ref (G.1 + b3)), (4, .int v4), (5, .int v5)]) dX6_firstBoard_64 rfl rfl (Nat.le_of_ble_eq_true rfl) rfl ?_
      refine aw_goto (tgt := 8) dX6_firstBoard_67 (by decide) ?_
      cases hF
      exact aw_sub [1, 2, 3, 4, 5, 0] rfl (hc (v5, (v6 + 1)) rfl)
    · rw [if_neg c3] at hF
      refine aw_aload_n dX6_firstBoard_30 2 rfl rfl ?_
      obtain ⟨r4, er4, hF⟩ := qbind hF
      have kr4 : qok R r4 9 := hW.get hb3 er4 rfl
      refine aw_getr fl_X6_124 (by decide) fg_X5_5 hb3 er4 rfl dX6_firstBoard_31 ?_
      refine aw_aload_n dX6_firstBoard_34 1 rfl rfl ?_
      obtain ⟨r5, er5, hF⟩ := qbind hF
      have kr5 : qok R r5 9 := hW.get hb1 er5 rfl
      refine aw_getr fl_X6_88 (by decide) fg_X5_2 hb1 er5 rfl dX6_firstBoard_35 ?_
      refine aw_iload dX6_firstBoard_38 5 rfl ?_
      obtain ⟨x6, ex6, hF⟩ := qbind hF
      refine aw_ialdq kr5 ex6 dX6_firstBoard_40 ?_
      obtain ⟨x7, ex7, hF⟩ := qbind hF
      refine aw_ialdq kr4 ex7 dX6_firstBoard_41 ?_
      refine aw_istore (lv' := [(7, .int x7), (0, .ref (G.1 + b0)), (1, .ref (G.1 + b1)), (3, .ref (G.1 + b3)), (4, .int v4), (5, .int v5), (6, .int v6)]) dX6_firstBoard_42 (Nat.le_of_ble_eq_true rfl) rfl ?_
      refine aw_iload dX6_firstBoard_44 5 rfl ?_
      refine aw_iconst (v := (-1 : Int32)) dX6_firstBoard_46 (by decide) ?_
      refine aw_icmp_ne (tgt := 55) dX6_firstBoard_47 (by decide) (fun c8 => ?_) (fun c8 => ?_)
      · rw [if_neg c8] at hF
        refine aw_iload dX6_firstBoard_55 5 rfl ?_
        refine aw_iload dX6_firstBoard_57 0 rfl ?_
        refine aw_minq cl_X6_143 rfl (Nat.le_of_ble_eq_true rfl) (by decide) dX6_firstBoard_59 ?_
        refine aw_istore (lv' := [(5, .int (if x7 < v5 then x7 else v5)), (7, .int x7), (0, .ref (G.1 + b0)), (1, .ref (G.1 + b1)), (3, .ref (G.1 + b3)), (4, .int v4), (6, .int v6)]) dX6_firstBoard_62 (Nat.le_of_ble_eq_true rfl) rfl ?_
        refine aw_iinc (q := 6) (v := (v6 + 1)) (lv' := [(6, .int (v6 + 1)), (5, .int (if x7 < v5 then x7 else v5)), (7, .int x7), (0, .ref (G.1 + b0)), (1, .ref (G.1 + b1)), (3, .ref (G.1 + b3)), (4, .int v4)]) dX6_firstBoard_64 rfl rfl (Nat.le_of_ble_eq_true rfl) rfl ?_
        refine aw_goto (tgt := 8) dX6_firstBoard_67 (by decide) ?_
        cases hF
        exact aw_sub [3, 4, 5, 6, 1, 0] rfl (hc ((if x7 < v5 then x7 else v5), (v6 + 1)) rfl)
      · rw [if_pos c8] at hF
        refine aw_iload dX6_firstBoard_50 0 rfl ?_
        refine aw_goto (tgt := 62) dX6_firstBoard_52 (by decide) ?_
        refine aw_istore (lv' := [(5, .int x7), (7, .int x7), (0, .ref (G.1 + b0)), (1, .ref (G.1 + b1)), (3, .ref (G.1 + b3)), (4, .int v4), (6, .int v6)]) dX6_firstBoard_62 (Nat.le_of_ble_eq_true rfl) rfl ?_
        refine aw_iinc (q := 6) (v := (v6 + 1)) (lv' := [(6, .int (v6 + 1)), (5, .int x7), (7, .int x7), (0, .ref (G.1 + b0)), (1, .ref (G.1 + b1)), (3, .ref (G.1 + b3)), (4, .int v4)]) dX6_firstBoard_64 rfl rfl (Nat.le_of_ble_eq_true rfl) rfl ?_
        refine aw_goto (tgt := 8) dX6_firstBoard_67 (by decide) ?_
        cases hF
        exact aw_sub [3, 4, 5, 6, 1, 0] rfl (hc (x7, (v6 + 1)) rfl)
def fX6_firstBoard (N : Nat) (R : qR) (I : qI) (a0 : Nat) (a1 : Nat) (p2 : Int32) (a3 : Nat) (p4 : Int32) : Option (Int32) :=
  (qloop (fun s => cX6_firstBoard_8 N R I a0 a1 a3 p4 s.1 s.2) N ((-1 : Int32), (p2 + (1 : Int32)))).bind fun o9 =>
  some o9
set_option maxHeartbeats 4000000 in
set_option maxRecDepth 100000 in
theorem sX6_firstBoard {l : Launch} {G : qG} {N : Nat} {R : qR} {I : qI} {a0 : Nat} {a1 : Nat} {p2 : Int32} {a3 : Nat} {p4 : Int32} {rv : Int32} (hW : qWT R) (ha0 : qok R a0 6) (ha1 : qok R a1 5) (ha3 : qok R a3 5) (hF : fX6_firstBoard N R I a0 a1 p2 a3 p4 = some rv) : qMt l G mX6_firstBoard 2 [.ref (G.1 + a0), .ref (G.1 + a1), .int p2, .ref (G.1 + a3), .int p4] I R (some (.int rv)) I R := by
  unfold fX6_firstBoard at hF
  refine qMt_of (by decide) (Nat.le_of_ble_eq_true rfl) ⟨Nat.le_refl _, Nat.le_refl _⟩ ?_
  show AW _ 0 [(0, .ref (G.1 + a0)), (1, .ref (G.1 + a1)), (2, .int p2), (3, .ref (G.1 + a3)), (4, .int p4)] [] I R
  refine aw_iconst (v := (-1 : Int32)) dX6_firstBoard_0 (by decide) ?_
  refine aw_istore (lv' := [(5, .int (-1 : Int32)), (0, .ref (G.1 + a0)), (1, .ref (G.1 + a1)), (2, .int p2), (3, .ref (G.1 + a3)), (4, .int p4)]) dX6_firstBoard_1 (Nat.le_of_ble_eq_true rfl) rfl ?_
  refine aw_iload_n dX6_firstBoard_3 3 rfl rfl ?_
  refine aw_iconst (v := (1 : Int32)) dX6_firstBoard_4 (by decide) ?_
  refine aw_iadd dX6_firstBoard_5 ?_
  refine aw_istore (lv' := [(6, .int (p2 + (1 : Int32))), (5, .int (-1 : Int32)), (0, .ref (G.1 + a0)), (1, .ref (G.1 + a1)), (2, .int p2), (3, .ref (G.1 + a3)), (4, .int p4)]) dX6_firstBoard_6 (Nat.le_of_ble_eq_true rfl) rfl ?_
  obtain ⟨o9, eo9, hF⟩ := qbind hF
  refine aw_sub [2, 3, 5, 6, 1, 0] rfl (tX6_firstBoard_8 hW ha0 ha1 ha3 (o := o9) ?_ N ((-1 : Int32), (p2 + (1 : Int32))) eo9)
  show AW _ 70 [(5, .int o9)] [] I R
  refine aw_iload dX6_firstBoard_70 0 rfl ?_
  cases hF
  exact aw_iret rfl dX6_firstBoard_72 rfl rfl rfl
def cX6_chooseTrain_2 (N : Nat) (R : qR) (I : qI) (b0 : Nat) (v1 : Int32) (v2 : Int32) : Option ((Int32) ⊕ ((Unit) ⊕ (qI))) :=
  if (I b0 1) ≤ v2 then
    (some (.inr (.inl ())))
  else
    ((R.1 b0 5).bind fun r2 =>
    (qrd I R r2 (((((I b0 7) - (1 : Int32)) - v1) * (10 : Int32)) + v2)).bind fun x3 =>
    (R.1 b0 0).bind fun r4 =>
    (R.1 b0 8).bind fun r5 =>
    (qrd I R r5 (v1 - (1 : Int32))).bind fun x6 =>
    (qra R r4 x6).bind fun r7 =>
    (R.1 b0 10).bind fun r8 =>
    (qrd I R r8 (v1 - (1 : Int32))).bind fun x9 =>
    (qra R r4 v2).bind fun r10 =>
    (fX6_firstBoard N R I b0 r7 x9 r10 x3).bind fun y11 =>
    if y11 = (-1 : Int32) then
      (some (.inl (v2 + 1)))
    else
      ((qwr I R r5 v1 v2).bind fun I13 =>
      (qwr I13 R r8 v1 y11).bind fun I14 =>
      some (.inr (.inr I14))))
set_option maxHeartbeats 4000000 in
set_option maxRecDepth 100000 in
theorem tX6_chooseTrain_2 {l : Launch} {G : qG} {N : Nat} {R : qR} {I : qI} {As : List Value} {rv : Option Value} {I1 : qI} {b0 : Nat} {v1 : Int32} (hW : qWT R) (hb0 : qok R b0 6) {o : (Unit) ⊕ (qI)} (hx : match o with | .inl _ => AW (Zm l G mX6_chooseTrain 3 As R rv I1 R) 91 [] [] I R | .inr rrI => rv = none ∧ I1 = rrI) : ∀ n s, qloop (fun s => cX6_chooseTrain_2 N R I b0 v1 s) n s = some o → AW (Zm l G mX6_chooseTrain 3 As R rv I1 R) 2 [(0, .ref (G.1 + b0)), (1, .int v1), (2, .int s)] [] I R := by
  apply qloop_ind
  intro s x hF hc he
  obtain ⟨v2, rfl⟩ : ∃ z, z = s := ⟨s, rfl⟩
  change cX6_chooseTrain_2 N R I b0 v1 v2 = some x at hF
  unfold cX6_chooseTrain_2 at hF
  show AW _ 2 [(0, .ref (G.1 + b0)), (1, .int v1), (2, .int v2)] [] I R
  refine aw_iload_n dX6_chooseTrain_2 2 rfl rfl ?_
  refine aw_aload_n dX6_chooseTrain_3 0 rfl rfl ?_
  refine aw_geti fl_X6_42 (by decide) fg_X6_1 hb0 rfl dX6_chooseTrain_4 ?_
  refine aw_icmp_ge (tgt := 91) dX6_chooseTrain_7 (by decide) (fun c1 => ?_) (fun c1 => ?_)
  · rw [if_pos c1] at hF
    cases hF
    have hE := he _ rfl
    subst hE
    exact aw_sub [] rfl hx
  · rw [if_neg c1] at hF
    refine aw_aload_n dX6_chooseTrain_10 0 rfl rfl ?_
    obtain ⟨r2, er2, hF⟩ := qbind hF
    have kr2 : qok R r2 9 := hW.get hb0 er2 rfl
    refine aw_getr fl_X6_21 (by decide) fg_X6_5 hb0 er2 rfl dX6_chooseTrain_11 ?_
    refine aw_aload_n dX6_chooseTrain_14 0 rfl rfl ?_
    refine aw_geti fl_X6_72 (by decide) fg_X6_7 hb0 rfl dX6_chooseTrain_15 ?_
    refine aw_iconst (v := (1 : Int32)) dX6_chooseTrain_18 (by decide) ?_
    refine aw_isub dX6_chooseTrain_19 ?_
    refine aw_iload_n dX6_chooseTrain_20 1 rfl rfl ?_
    refine aw_isub dX6_chooseTrain_21 ?_
    refine aw_bipush (v := (10 : Int32)) dX6_chooseTrain_22 (by decide) ?_
    refine aw_imul dX6_chooseTrain_24 ?_
    refine aw_iload_n dX6_chooseTrain_25 2 rfl rfl ?_
    refine aw_iadd dX6_chooseTrain_26 ?_
    obtain ⟨x3, ex3, hF⟩ := qbind hF
    refine aw_ialdq kr2 ex3 dX6_chooseTrain_27 ?_
    refine aw_istore_n (lv' := [(3, .int x3), (0, .ref (G.1 + b0)), (1, .int v1), (2, .int v2)]) dX6_chooseTrain_28 rfl (Nat.le_of_ble_eq_true rfl) rfl ?_
    refine aw_aload_n dX6_chooseTrain_29 1 rfl rfl ?_
    refine aw_aload_n dX6_chooseTrain_30 1 rfl rfl ?_
    obtain ⟨r4, er4, hF⟩ := qbind hF
    have kr4 : qok R r4 11 := hW.get hb0 er4 rfl
    refine aw_getr fl_X6_11 (by decide) fg_X6_0 hb0 er4 rfl dX6_chooseTrain_31 ?_
    refine aw_aload_n dX6_chooseTrain_34 1 rfl rfl ?_
    obtain ⟨r5, er5, hF⟩ := qbind hF
    have kr5 : qok R r5 9 := hW.get hb0 er5 rfl
    refine aw_getr fl_X6_24 (by decide) fg_X6_8 hb0 er5 rfl dX6_chooseTrain_35 ?_
    refine aw_iload_n dX6_chooseTrain_38 2 rfl rfl ?_
    refine aw_iconst (v := (1 : Int32)) dX6_chooseTrain_39 (by decide) ?_
    refine aw_isub dX6_chooseTrain_40 ?_
    obtain ⟨x6, ex6, hF⟩ := qbind hF
    refine aw_ialdq kr5 ex6 dX6_chooseTrain_41 ?_
    obtain ⟨r7, er7, hF⟩ := qbind hF
    have kr7 : qok R r7 5 := hW.elem kr4 er7
    refine aw_aaldq kr4 er7 dX6_chooseTrain_42 ?_
    refine aw_aload_n dX6_chooseTrain_43 1 rfl rfl ?_
    obtain ⟨r8, er8, hF⟩ := qbind hF
    have kr8 : qok R r8 9 := hW.get hb0 er8 rfl
    refine aw_getr fl_X6_30 (by decide) fg_X6_10 hb0 er8 rfl dX6_chooseTrain_44 ?_
    refine aw_iload_n dX6_chooseTrain_47 2 rfl rfl ?_
    refine aw_iconst (v := (1 : Int32)) dX6_chooseTrain_48 (by decide) ?_
    refine aw_isub dX6_chooseTrain_49 ?_
    obtain ⟨x9, ex9, hF⟩ := qbind hF
    refine aw_ialdq kr8 ex9 dX6_chooseTrain_50 ?_
    refine aw_aload_n dX6_chooseTrain_51 1 rfl rfl ?_
    refine aw_getr fl_X6_11 (by decide) fg_X6_0 hb0 er4 rfl dX6_chooseTrain_52 ?_
    refine aw_iload_n dX6_chooseTrain_55 3 rfl rfl ?_
    obtain ⟨r10, er10, hF⟩ := qbind hF
    have kr10 : qok R r10 5 := hW.elem kr4 er10
    refine aw_aaldq kr4 er10 dX6_chooseTrain_56 ?_
    refine aw_iload_n dX6_chooseTrain_57 0 rfl rfl ?_
    obtain ⟨y11, ey11, hF⟩ := qbind hF
    refine aw_callVi (As := [.ref (G.1 + r7), .int x9, .ref (G.1 + r10), .int x3]) (sX6_firstBoard hW hb0 kr7 kr10 ey11) cl_X6_139 rfl (qroomL (by decide) (by decide)) rfl hb0 (Nat.le_of_ble_eq_true rfl) dX6_chooseTrain_58 rfl ?_
    refine aw_istore (lv' := [(4, .int y11), (3, .int x3), (0, .ref (G.1 + b0)), (1, .int v1), (2, .int v2)]) dX6_chooseTrain_61 (Nat.le_of_ble_eq_true rfl) rfl ?_
    refine aw_iload dX6_chooseTrain_63 0 rfl ?_
    refine aw_iconst (v := (-1 : Int32)) dX6_chooseTrain_65 (by decide) ?_
    refine aw_icmp_eq (tgt := 85) dX6_chooseTrain_66 (by decide) (fun c12 => ?_) (fun c12 => ?_)
    · rw [if_pos c12] at hF
      refine aw_iinc (q := 4) (v := (v2 + 1)) (lv' := [(2, .int (v2 + 1)), (4, .int y11), (3, .int x3), (0, .ref (G.1 + b0)), (1, .int v1)]) dX6_chooseTrain_85 rfl rfl (Nat.le_of_ble_eq_true rfl) rfl ?_
      refine aw_goto (tgt := 2) dX6_chooseTrain_88 (by decide) ?_
      cases hF
      exact aw_sub [3, 4, 0] rfl (hc (v2 + 1) rfl)
    · rw [if_neg c12] at hF
      refine aw_aload_n dX6_chooseTrain_69 2 rfl rfl ?_
      refine aw_getr fl_X6_24 (by decide) fg_X6_8 hb0 er5 rfl dX6_chooseTrain_70 ?_
      refine aw_iload_n dX6_chooseTrain_73 3 rfl rfl ?_
      refine aw_iload_n dX6_chooseTrain_74 4 rfl rfl ?_
      obtain ⟨I13, eI13, hF⟩ := qbind hF
      refine aw_iastq kr5 eI13 dX6_chooseTrain_75 ?_
      refine aw_aload_n dX6_chooseTrain_76 2 rfl rfl ?_
      refine aw_getr fl_X6_30 (by decide) fg_X6_10 hb0 er8 rfl dX6_chooseTrain_77 ?_
      refine aw_iload_n dX6_chooseTrain_80 3 rfl rfl ?_
      refine aw_iload dX6_chooseTrain_81 0 rfl ?_
      obtain ⟨I14, eI14, hF⟩ := qbind hF
      refine aw_iastq kr8 eI14 dX6_chooseTrain_83 ?_
      cases hF
      have hE := he _ rfl
      subst hE
      exact aw_vret rfl dX6_chooseTrain_84 hx.1 hx.2 rfl
def fX6_chooseTrain (N : Nat) (R : qR) (I : qI) (a0 : Nat) (p1 : Int32) : Option (qI) :=
  (qloop (fun s => cX6_chooseTrain_2 N R I a0 p1 s) N (0 : Int32)).bind fun o15 =>
  qx o15 (fun e16 =>
    some I) (fun q17 => some q17)
set_option maxHeartbeats 4000000 in
set_option maxRecDepth 100000 in
theorem sX6_chooseTrain {l : Launch} {G : qG} {N : Nat} {R : qR} {I : qI} {a0 : Nat} {p1 : Int32} {rI : qI} (hW : qWT R) (ha0 : qok R a0 6) (hF : fX6_chooseTrain N R I a0 p1 = some rI) : qMt l G mX6_chooseTrain 3 [.ref (G.1 + a0), .int p1] I R (none) rI R := by
  unfold fX6_chooseTrain at hF
  refine qMt_of (by decide) (Nat.le_of_ble_eq_true rfl) ⟨Nat.le_refl _, Nat.le_refl _⟩ ?_
  show AW _ 0 [(0, .ref (G.1 + a0)), (1, .int p1)] [] I R
  refine aw_iconst (v := (0 : Int32)) dX6_chooseTrain_0 (by decide) ?_
  refine aw_istore_n (lv' := [(2, .int (0 : Int32)), (0, .ref (G.1 + a0)), (1, .int p1)]) dX6_chooseTrain_1 rfl (Nat.le_of_ble_eq_true rfl) rfl ?_
  obtain ⟨o15, eo15, hF⟩ := qbind hF
  refine aw_sub [1, 2, 0] rfl (tX6_chooseTrain_2 hW ha0 (o := o15) ?_ N (0 : Int32) eo15)
  cases o15 with
  | inl e16 =>
    replace hF := qxl hF
    show AW _ 91 [] [] I R
    cases hF
    exact aw_vret rfl dX6_chooseTrain_91 rfl rfl rfl
  | inr q17 =>
    replace hF := qxr hF
    cases hF
    exact ⟨rfl, rfl⟩
def cX6_firstTrain_2 (N : Nat) (R : qR) (I : qI) (b0 : Nat) (v1 : Int32) (v2 : Int32) (v3 : Int32) : Option ((Int32) ⊕ ((Unit) ⊕ (Int32))) :=
  if (I b0 1) ≤ v3 then
    (some (.inr (.inl ())))
  else
    ((R.1 b0 0).bind fun r2 =>
    (qra R r2 v3).bind fun r3 =>
    (R.1 r3 5).bind fun r4 =>
    (qrd I R r4 v1).bind fun x5 =>
    if x5 = (-1 : Int32) then
      (some (.inl (v3 + 1)))
    else
      ((R.1 b0 5).bind fun r7 =>
      (qrd I R r7 ((((I b0 7) - (1 : Int32)) * (10 : Int32)) + v3)).bind fun x8 =>
      if x8 < x5 then
        (some (.inl (v3 + 1)))
      else
        ((R.1 r3 4).bind fun r10 =>
        (qrd I R r10 x5).bind fun x11 =>
        if x11 < v2 then
          (some (.inl (v3 + 1)))
        else
          (some (.inr (.inr v3))))))
set_option maxHeartbeats 4000000 in
set_option maxRecDepth 100000 in
theorem tX6_firstTrain_2 {l : Launch} {G : qG} {N : Nat} {R : qR} {I : qI} {As : List Value} {rv : Option Value} {b0 : Nat} {v1 : Int32} {v2 : Int32} (hW : qWT R) (hb0 : qok R b0 6) {o : (Unit) ⊕ (Int32)} (hx : match o with | .inl _ => AW (Zm l G mX6_firstTrain 1 As R rv I R) 74 [] [] I R | .inr rrv => rv = some (.int rrv) ∧ True) : ∀ n s, qloop (fun s => cX6_firstTrain_2 N R I b0 v1 v2 s) n s = some o → AW (Zm l G mX6_firstTrain 1 As R rv I R) 2 [(0, .ref (G.1 + b0)), (1, .int v1), (2, .int v2), (3, .int s)] [] I R := by
  apply qloop_ind
  intro s x hF hc he
  obtain ⟨v3, rfl⟩ : ∃ z, z = s := ⟨s, rfl⟩
  change cX6_firstTrain_2 N R I b0 v1 v2 v3 = some x at hF
  unfold cX6_firstTrain_2 at hF
  show AW _ 2 [(0, .ref (G.1 + b0)), (1, .int v1), (2, .int v2), (3, .int v3)] [] I R
  refine aw_iload_n dX6_firstTrain_2 3 rfl rfl ?_
  refine aw_aload_n dX6_firstTrain_3 0 rfl rfl ?_
  refine aw_geti fl_X6_42 (by decide) fg_X6_1 hb0 rfl dX6_firstTrain_4 ?_
  refine aw_icmp_ge (tgt := 74) dX6_firstTrain_7 (by decide) (fun c1 => ?_) (fun c1 => ?_)
  · rw [if_pos c1] at hF
    cases hF
    have hE := he _ rfl
    subst hE
    exact aw_sub [] rfl hx
  · rw [if_neg c1] at hF
    refine aw_aload_n dX6_firstTrain_10 0 rfl rfl ?_
    obtain ⟨r2, er2, hF⟩ := qbind hF
    have kr2 : qok R r2 11 := hW.get hb0 er2 rfl
    refine aw_getr fl_X6_11 (by decide) fg_X6_0 hb0 er2 rfl dX6_firstTrain_11 ?_
    refine aw_iload_n dX6_firstTrain_14 3 rfl rfl ?_
    obtain ⟨r3, er3, hF⟩ := qbind hF
    have kr3 : qok R r3 5 := hW.elem kr2 er3
    refine aw_aaldq kr2 er3 dX6_firstTrain_15 ?_
    obtain ⟨r4, er4, hF⟩ := qbind hF
    have kr4 : qok R r4 9 := hW.get kr3 er4 rfl
    refine aw_getr fl_X6_124 (by decide) fg_X5_5 kr3 er4 rfl dX6_firstTrain_16 ?_
    refine aw_iload_n dX6_firstTrain_19 1 rfl rfl ?_
    obtain ⟨x5, ex5, hF⟩ := qbind hF
    refine aw_ialdq kr4 ex5 dX6_firstTrain_20 ?_
    refine aw_istore (lv' := [(4, .int x5), (0, .ref (G.1 + b0)), (1, .int v1), (2, .int v2), (3, .int v3)]) dX6_firstTrain_21 (Nat.le_of_ble_eq_true rfl) rfl ?_
    refine aw_iload dX6_firstTrain_23 0 rfl ?_
    refine aw_iconst (v := (-1 : Int32)) dX6_firstTrain_25 (by decide) ?_
    refine aw_icmp_eq (tgt := 68) dX6_firstTrain_26 (by decide) (fun c6 => ?_) (fun c6 => ?_)
    · rw [if_pos c6] at hF
      refine aw_iinc (q := 4) (v := (v3 + 1)) (lv' := [(3, .int (v3 + 1)), (4, .int x5), (0, .ref (G.1 + b0)), (1, .int v1), (2, .int v2)]) dX6_firstTrain_68 rfl rfl (Nat.le_of_ble_eq_true rfl) rfl ?_
      refine aw_goto (tgt := 2) dX6_firstTrain_71 (by decide) ?_
      cases hF
      exact aw_sub [2, 3, 4, 0] rfl (hc (v3 + 1) rfl)
    · rw [if_neg c6] at hF
      refine aw_iload dX6_firstTrain_29 0 rfl ?_
      refine aw_aload_n dX6_firstTrain_31 1 rfl rfl ?_
      obtain ⟨r7, er7, hF⟩ := qbind hF
      have kr7 : qok R r7 9 := hW.get hb0 er7 rfl
      refine aw_getr fl_X6_21 (by decide) fg_X6_5 hb0 er7 rfl dX6_firstTrain_32 ?_
      refine aw_aload_n dX6_firstTrain_35 1 rfl rfl ?_
      refine aw_geti fl_X6_72 (by decide) fg_X6_7 hb0 rfl dX6_firstTrain_36 ?_
      refine aw_iconst (v := (1 : Int32)) dX6_firstTrain_39 (by decide) ?_
      refine aw_isub dX6_firstTrain_40 ?_
      refine aw_bipush (v := (10 : Int32)) dX6_firstTrain_41 (by decide) ?_
      refine aw_imul dX6_firstTrain_43 ?_
      refine aw_iload_n dX6_firstTrain_44 4 rfl rfl ?_
      refine aw_iadd dX6_firstTrain_45 ?_
      obtain ⟨x8, ex8, hF⟩ := qbind hF
      refine aw_ialdq kr7 ex8 dX6_firstTrain_46 ?_
      refine aw_icmp_gt (tgt := 68) dX6_firstTrain_47 (by decide) (fun c9 => ?_) (fun c9 => ?_)
      · rw [if_pos c9] at hF
        refine aw_iinc (q := 4) (v := (v3 + 1)) (lv' := [(3, .int (v3 + 1)), (4, .int x5), (0, .ref (G.1 + b0)), (1, .int v1), (2, .int v2)]) dX6_firstTrain_68 rfl rfl (Nat.le_of_ble_eq_true rfl) rfl ?_
        refine aw_goto (tgt := 2) dX6_firstTrain_71 (by decide) ?_
        cases hF
        exact aw_sub [2, 3, 4, 0] rfl (hc (v3 + 1) rfl)
      · rw [if_neg c9] at hF
        refine aw_aload_n dX6_firstTrain_50 1 rfl rfl ?_
        refine aw_getr fl_X6_11 (by decide) fg_X6_0 hb0 er2 rfl dX6_firstTrain_51 ?_
        refine aw_iload_n dX6_firstTrain_54 4 rfl rfl ?_
        refine aw_aaldq kr2 er3 dX6_firstTrain_55 ?_
        obtain ⟨r10, er10, hF⟩ := qbind hF
        have kr10 : qok R r10 9 := hW.get kr3 er10 rfl
        refine aw_getr fl_X6_91 (by decide) fg_X5_4 kr3 er10 rfl dX6_firstTrain_56 ?_
        refine aw_iload dX6_firstTrain_59 0 rfl ?_
        obtain ⟨x11, ex11, hF⟩ := qbind hF
        refine aw_ialdq kr10 ex11 dX6_firstTrain_61 ?_
        refine aw_iload_n dX6_firstTrain_62 3 rfl rfl ?_
        refine aw_icmp_lt (tgt := 68) dX6_firstTrain_63 (by decide) (fun c12 => ?_) (fun c12 => ?_)
        · rw [if_pos c12] at hF
          refine aw_iinc (q := 4) (v := (v3 + 1)) (lv' := [(3, .int (v3 + 1)), (4, .int x5), (0, .ref (G.1 + b0)), (1, .int v1), (2, .int v2)]) dX6_firstTrain_68 rfl rfl (Nat.le_of_ble_eq_true rfl) rfl ?_
          refine aw_goto (tgt := 2) dX6_firstTrain_71 (by decide) ?_
          cases hF
          exact aw_sub [2, 3, 4, 0] rfl (hc (v3 + 1) rfl)
        · rw [if_neg c12] at hF
          refine aw_iload_n dX6_firstTrain_66 4 rfl rfl ?_
          cases hF
          have hE := he _ rfl
          subst hE
          exact aw_iret rfl dX6_firstTrain_67 hx.1 rfl rfl
def fX6_firstTrain (N : Nat) (R : qR) (I : qI) (a0 : Nat) (p1 : Int32) (p2 : Int32) : Option (Int32) :=
  (qloop (fun s => cX6_firstTrain_2 N R I a0 p1 p2 s) N (0 : Int32)).bind fun o13 =>
  qx o13 (fun e14 =>
    some (-1 : Int32)) (fun q15 => some q15)
set_option maxHeartbeats 4000000 in
set_option maxRecDepth 100000 in
theorem sX6_firstTrain {l : Launch} {G : qG} {N : Nat} {R : qR} {I : qI} {a0 : Nat} {p1 : Int32} {p2 : Int32} {rv : Int32} (hW : qWT R) (ha0 : qok R a0 6) (hF : fX6_firstTrain N R I a0 p1 p2 = some rv) : qMt l G mX6_firstTrain 1 [.ref (G.1 + a0), .int p1, .int p2] I R (some (.int rv)) I R := by
  unfold fX6_firstTrain at hF
  refine qMt_of (by decide) (Nat.le_of_ble_eq_true rfl) ⟨Nat.le_refl _, Nat.le_refl _⟩ ?_
  show AW _ 0 [(0, .ref (G.1 + a0)), (1, .int p1), (2, .int p2)] [] I R
  refine aw_iconst (v := (0 : Int32)) dX6_firstTrain_0 (by decide) ?_
  refine aw_istore_n (lv' := [(3, .int (0 : Int32)), (0, .ref (G.1 + a0)), (1, .int p1), (2, .int p2)]) dX6_firstTrain_1 rfl (Nat.le_of_ble_eq_true rfl) rfl ?_
  obtain ⟨o13, eo13, hF⟩ := qbind hF
  refine aw_sub [1, 2, 3, 0] rfl (tX6_firstTrain_2 hW ha0 (o := o13) ?_ N (0 : Int32) eo13)
  cases o13 with
  | inl e14 =>
    replace hF := qxl hF
    show AW _ 74 [] [] I R
    refine aw_iconst (v := (-1 : Int32)) dX6_firstTrain_74 (by decide) ?_
    cases hF
    exact aw_iret rfl dX6_firstTrain_75 rfl rfl rfl
  | inr q15 =>
    replace hF := qxr hF
    cases hF
    exact ⟨rfl, trivial⟩
def cX6_chooseTrains_40 (N : Nat) (R : qR) (b0 : Nat) (v3 : Int32) (I : qI) : Option ((Int32 × qI) ⊕ (qI)) :=
  if (I b0 7) ≤ v3 then
    (some (.inr I))
  else
    ((fX6_chooseTrain N R I b0 v3).bind fun y12 =>
    some (.inl ((v3 + 1), y12)))
set_option maxHeartbeats 4000000 in
set_option maxRecDepth 100000 in
theorem tX6_chooseTrains_40 {l : Launch} {G : qG} {N : Nat} {R : qR} {As : List Value} {rv : Option Value} {I1 : qI} {b0 : Nat} (hW : qWT R) (hb0 : qok R b0 6) {o : qI} (hx : AW (Zm l G mX6_chooseTrains 4 As R rv I1 R) 59 [] [] o R) : ∀ n s, qloop (fun s => cX6_chooseTrains_40 N R b0 s.1 s.2) n s = some o → (match s with | (v3, I) => AW (Zm l G mX6_chooseTrains 4 As R rv I1 R) 40 [(0, .ref (G.1 + b0)), (3, .int v3)] [] I R) := by
  apply qloop_ind
  intro s x hF hc he
  obtain ⟨v3, I⟩ := s
  change cX6_chooseTrains_40 N R b0 v3 I = some x at hF
  unfold cX6_chooseTrains_40 at hF
  show AW _ 40 [(0, .ref (G.1 + b0)), (3, .int v3)] [] I R
  refine aw_iload_n dX6_chooseTrains_40 1 rfl rfl ?_
  refine aw_aload_n dX6_chooseTrains_41 0 rfl rfl ?_
  refine aw_geti fl_X6_72 (by decide) fg_X6_7 hb0 rfl dX6_chooseTrains_42 ?_
  refine aw_icmp_ge (tgt := 59) dX6_chooseTrains_45 (by decide) (fun c11 => ?_) (fun c11 => ?_)
  · rw [if_pos c11] at hF
    cases hF
    have hE := he _ rfl
    subst hE
    exact aw_sub [] rfl hx
  · rw [if_neg c11] at hF
    refine aw_aload_n dX6_chooseTrains_48 0 rfl rfl ?_
    refine aw_iload_n dX6_chooseTrains_49 1 rfl rfl ?_
    obtain ⟨y12, ey12, hF⟩ := qbind hF
    refine aw_callVv (As := [.int v3]) (sX6_chooseTrain hW hb0 ey12) cl_X6_136 rfl (qroomL (by decide) (by decide)) rfl hb0 (Nat.le_of_ble_eq_true rfl) dX6_chooseTrains_50 rfl ?_
    refine aw_iinc (q := 1) (v := (v3 + 1)) (lv' := [(3, .int (v3 + 1)), (0, .ref (G.1 + b0))]) dX6_chooseTrains_53 rfl rfl (Nat.le_of_ble_eq_true rfl) rfl ?_
    refine aw_goto (tgt := 40) dX6_chooseTrains_56 (by decide) ?_
    cases hF
    exact aw_sub [1, 0] rfl (hc ((v3 + 1), y12) rfl)
def fX6_chooseTrains (N : Nat) (R : qR) (I : qI) (a0 : Nat) (p1 : Int32) (p2 : Int32) : Option (qI) :=
  (R.1 a0 8).bind fun r1 =>
  (fX6_firstTrain N R I a0 p1 p2).bind fun y2 =>
  (qwr I R r1 (0 : Int32) (if y2 < (0 : Int32) then (0 : Int32) else y2)).bind fun I3 =>
  (R.1 a0 10).bind fun r4 =>
  (R.1 a0 0).bind fun r5 =>
  (qrd I3 R r1 (0 : Int32)).bind fun x6 =>
  (qra R r5 x6).bind fun r7 =>
  (R.1 r7 5).bind fun r8 =>
  (qrd I3 R r8 p1).bind fun x9 =>
  (qwr I3 R r4 (0 : Int32) x9).bind fun I10 =>
  (qloop (fun s => cX6_chooseTrains_40 N R a0 s.1 s.2) N ((1 : Int32), I10)).bind fun o13 =>
  some o13
set_option maxHeartbeats 4000000 in
set_option maxRecDepth 100000 in
theorem sX6_chooseTrains {l : Launch} {G : qG} {N : Nat} {R : qR} {I : qI} {a0 : Nat} {p1 : Int32} {p2 : Int32} {rI : qI} (hW : qWT R) (ha0 : qok R a0 6) (hF : fX6_chooseTrains N R I a0 p1 p2 = some rI) : qMt l G mX6_chooseTrains 4 [.ref (G.1 + a0), .int p1, .int p2] I R (none) rI R := by
  unfold fX6_chooseTrains at hF
  refine qMt_of (by decide) (Nat.le_of_ble_eq_true rfl) ⟨Nat.le_refl _, Nat.le_refl _⟩ ?_
  show AW _ 0 [(0, .ref (G.1 + a0)), (1, .int p1), (2, .int p2)] [] I R
  refine aw_aload_n dX6_chooseTrains_0 0 rfl rfl ?_
  obtain ⟨r1, er1, hF⟩ := qbind hF
  have kr1 : qok R r1 9 := hW.get ha0 er1 rfl
  refine aw_getr fl_X6_24 (by decide) fg_X6_8 ha0 er1 rfl dX6_chooseTrains_1 ?_
  refine aw_iconst (v := (0 : Int32)) dX6_chooseTrains_4 (by decide) ?_
  refine aw_aload_n dX6_chooseTrains_5 0 rfl rfl ?_
  refine aw_iload_n dX6_chooseTrains_6 1 rfl rfl ?_
  refine aw_iload_n dX6_chooseTrains_7 2 rfl rfl ?_
  obtain ⟨y2, ey2, hF⟩ := qbind hF
  refine aw_callVi (As := [.int p1, .int p2]) (sX6_firstTrain hW ha0 ey2) cl_X6_118 rfl (qroomL (by decide) (by decide)) rfl ha0 (Nat.le_of_ble_eq_true rfl) dX6_chooseTrains_8 rfl ?_
  refine aw_iconst (v := (0 : Int32)) dX6_chooseTrains_11 (by decide) ?_
  refine aw_maxq cl_X6_131 rfl (Nat.le_of_ble_eq_true rfl) (by decide) dX6_chooseTrains_12 ?_
  obtain ⟨I3, eI3, hF⟩ := qbind hF
  refine aw_iastq kr1 eI3 dX6_chooseTrains_15 ?_
  refine aw_aload_n dX6_chooseTrains_16 0 rfl rfl ?_
  obtain ⟨r4, er4, hF⟩ := qbind hF
  have kr4 : qok R r4 9 := hW.get ha0 er4 rfl
  refine aw_getr fl_X6_30 (by decide) fg_X6_10 ha0 er4 rfl dX6_chooseTrains_17 ?_
  refine aw_iconst (v := (0 : Int32)) dX6_chooseTrains_20 (by decide) ?_
  refine aw_aload_n dX6_chooseTrains_21 0 rfl rfl ?_
  obtain ⟨r5, er5, hF⟩ := qbind hF
  have kr5 : qok R r5 11 := hW.get ha0 er5 rfl
  refine aw_getr fl_X6_11 (by decide) fg_X6_0 ha0 er5 rfl dX6_chooseTrains_22 ?_
  refine aw_aload_n dX6_chooseTrains_25 0 rfl rfl ?_
  refine aw_getr fl_X6_24 (by decide) fg_X6_8 ha0 er1 rfl dX6_chooseTrains_26 ?_
  refine aw_iconst (v := (0 : Int32)) dX6_chooseTrains_29 (by decide) ?_
  obtain ⟨x6, ex6, hF⟩ := qbind hF
  refine aw_ialdq kr1 ex6 dX6_chooseTrains_30 ?_
  obtain ⟨r7, er7, hF⟩ := qbind hF
  have kr7 : qok R r7 5 := hW.elem kr5 er7
  refine aw_aaldq kr5 er7 dX6_chooseTrains_31 ?_
  obtain ⟨r8, er8, hF⟩ := qbind hF
  have kr8 : qok R r8 9 := hW.get kr7 er8 rfl
  refine aw_getr fl_X6_124 (by decide) fg_X5_5 kr7 er8 rfl dX6_chooseTrains_32 ?_
  refine aw_iload_n dX6_chooseTrains_35 1 rfl rfl ?_
  obtain ⟨x9, ex9, hF⟩ := qbind hF
  refine aw_ialdq kr8 ex9 dX6_chooseTrains_36 ?_
  obtain ⟨I10, eI10, hF⟩ := qbind hF
  refine aw_iastq kr4 eI10 dX6_chooseTrains_37 ?_
  refine aw_iconst (v := (1 : Int32)) dX6_chooseTrains_38 (by decide) ?_
  refine aw_istore_n (lv' := [(3, .int (1 : Int32)), (0, .ref (G.1 + a0)), (1, .int p1), (2, .int p2)]) dX6_chooseTrains_39 rfl (Nat.le_of_ble_eq_true rfl) rfl ?_
  obtain ⟨o13, eo13, hF⟩ := qbind hF
  refine aw_sub [1, 0] rfl (tX6_chooseTrains_40 hW ha0 (o := o13) ?_ N ((1 : Int32), I10) eo13)
  show AW _ 59 [] [] o13 R
  cases hF
  exact aw_vret rfl dX6_chooseTrains_59 rfl rfl rfl
def cX6_lastBoardBefore_14 (N : Nat) (R : qR) (I : qI) (b0 : Nat) (b1 : Nat) (v2 : Int32) (v3 : Int32) (v4 : Int32) : Option ((Int32) ⊕ ((Unit) ⊕ (Int32))) :=
  if (I b0 1) ≤ v4 then
    (some (.inr (.inl ())))
  else
    ((R.1 b0 0).bind fun r3 =>
    (qra R r3 v4).bind fun r4 =>
    (R.1 b0 5).bind fun r5 =>
    (qrd I R r5 ((v2 * (10 : Int32)) + v4)).bind fun x6 =>
    (fX6_canChange R I b0 b1 v3 r4 x6).bind fun y7 =>
    if y7 = 0 then
      (some (.inl (v4 + 1)))
    else
      (some (.inr (.inr (v3 - (1 : Int32))))))
set_option maxHeartbeats 4000000 in
set_option maxRecDepth 100000 in
theorem tX6_lastBoardBefore_14 {l : Launch} {G : qG} {N : Nat} {R : qR} {I : qI} {As : List Value} {rv : Option Value} {b0 : Nat} {b1 : Nat} {v2 : Int32} {v3 : Int32} (hW : qWT R) (hb0 : qok R b0 6) (hb1 : qok R b1 5) {o : (Unit) ⊕ (Int32)} (hx : match o with | .inl _ => AW (Zm l G mX6_lastBoardBefore 2 As R rv I R) 61 [(0, .ref (G.1 + b0)), (1, .ref (G.1 + b1)), (2, .int v2), (3, .int v3)] [] I R | .inr rrv => rv = some (.int rrv) ∧ True) : ∀ n s, qloop (fun s => cX6_lastBoardBefore_14 N R I b0 b1 v2 v3 s) n s = some o → AW (Zm l G mX6_lastBoardBefore 2 As R rv I R) 14 [(0, .ref (G.1 + b0)), (1, .ref (G.1 + b1)), (2, .int v2), (3, .int v3), (4, .int s)] [] I R := by
  apply qloop_ind
  intro s x hF hc he
  obtain ⟨v4, rfl⟩ : ∃ z, z = s := ⟨s, rfl⟩
  change cX6_lastBoardBefore_14 N R I b0 b1 v2 v3 v4 = some x at hF
  unfold cX6_lastBoardBefore_14 at hF
  show AW _ 14 [(0, .ref (G.1 + b0)), (1, .ref (G.1 + b1)), (2, .int v2), (3, .int v3), (4, .int v4)] [] I R
  refine aw_iload dX6_lastBoardBefore_14 4 rfl ?_
  refine aw_aload_n dX6_lastBoardBefore_16 0 rfl rfl ?_
  refine aw_geti fl_X6_42 (by decide) fg_X6_1 hb0 rfl dX6_lastBoardBefore_17 ?_
  refine aw_icmp_ge (tgt := 61) dX6_lastBoardBefore_20 (by decide) (fun c2 => ?_) (fun c2 => ?_)
  · rw [if_pos c2] at hF
    cases hF
    have hE := he _ rfl
    subst hE
    exact aw_sub [0, 1, 2, 3] rfl hx
  · rw [if_neg c2] at hF
    refine aw_aload_n dX6_lastBoardBefore_23 0 rfl rfl ?_
    refine aw_aload_n dX6_lastBoardBefore_24 1 rfl rfl ?_
    refine aw_iload_n dX6_lastBoardBefore_25 3 rfl rfl ?_
    refine aw_aload_n dX6_lastBoardBefore_26 0 rfl rfl ?_
    obtain ⟨r3, er3, hF⟩ := qbind hF
    have kr3 : qok R r3 11 := hW.get hb0 er3 rfl
    refine aw_getr fl_X6_11 (by decide) fg_X6_0 hb0 er3 rfl dX6_lastBoardBefore_27 ?_
    refine aw_iload dX6_lastBoardBefore_30 4 rfl ?_
    obtain ⟨r4, er4, hF⟩ := qbind hF
    have kr4 : qok R r4 5 := hW.elem kr3 er4
    refine aw_aaldq kr3 er4 dX6_lastBoardBefore_32 ?_
    refine aw_aload_n dX6_lastBoardBefore_33 0 rfl rfl ?_
    obtain ⟨r5, er5, hF⟩ := qbind hF
    have kr5 : qok R r5 9 := hW.get hb0 er5 rfl
    refine aw_getr fl_X6_21 (by decide) fg_X6_5 hb0 er5 rfl dX6_lastBoardBefore_34 ?_
    refine aw_iload_n dX6_lastBoardBefore_37 2 rfl rfl ?_
    refine aw_bipush (v := (10 : Int32)) dX6_lastBoardBefore_38 (by decide) ?_
    refine aw_imul dX6_lastBoardBefore_40 ?_
    refine aw_iload dX6_lastBoardBefore_41 4 rfl ?_
    refine aw_iadd dX6_lastBoardBefore_43 ?_
    obtain ⟨x6, ex6, hF⟩ := qbind hF
    refine aw_ialdq kr5 ex6 dX6_lastBoardBefore_44 ?_
    obtain ⟨y7, ey7, hF⟩ := qbind hF
    refine aw_callVi (As := [.ref (G.1 + b1), .int v3, .ref (G.1 + r4), .int x6]) (sX6_canChange hW hb0 hb1 kr4 ey7) cl_X6_127 rfl (qroomL (by decide) (by decide)) rfl hb0 (Nat.le_of_ble_eq_true rfl) dX6_lastBoardBefore_45 rfl ?_
    refine aw_if_eq (tgt := 55) dX6_lastBoardBefore_48 (by decide) (fun c8 => ?_) (fun c8 => ?_)
    · rw [if_pos c8] at hF
      refine aw_iinc (q := 4) (v := (v4 + 1)) (lv' := [(4, .int (v4 + 1)), (0, .ref (G.1 + b0)), (1, .ref (G.1 + b1)), (2, .int v2), (3, .int v3)]) dX6_lastBoardBefore_55 rfl rfl (Nat.le_of_ble_eq_true rfl) rfl ?_
      refine aw_goto (tgt := 14) dX6_lastBoardBefore_58 (by decide) ?_
      cases hF
      exact aw_sub [1, 2, 3, 4, 0] rfl (hc (v4 + 1) rfl)
    · rw [if_neg c8] at hF
      refine aw_iload_n dX6_lastBoardBefore_51 3 rfl rfl ?_
      refine aw_iconst (v := (1 : Int32)) dX6_lastBoardBefore_52 (by decide) ?_
      refine aw_isub dX6_lastBoardBefore_53 ?_
      cases hF
      have hE := he _ rfl
      subst hE
      exact aw_iret rfl dX6_lastBoardBefore_54 hx.1 rfl rfl
def cX6_lastBoardBefore_7 (N : Nat) (R : qR) (I : qI) (b0 : Nat) (b1 : Nat) (v2 : Int32) (v3 : Int32) : Option ((Int32) ⊕ ((Unit) ⊕ (Int32))) :=
  if v3 ≤ 0 then
    (some (.inr (.inl ())))
  else
    ((qloop (fun s => cX6_lastBoardBefore_14 N R I b0 b1 v2 v3 s) N (0 : Int32)).bind fun o9 =>
    qx o9 (fun e10 =>
      some (.inl (v3 + (-1)))) (fun q11 => some (.inr (.inr q11))))
set_option maxHeartbeats 4000000 in
set_option maxRecDepth 100000 in
theorem tX6_lastBoardBefore_7 {l : Launch} {G : qG} {N : Nat} {R : qR} {I : qI} {As : List Value} {rv : Option Value} {b0 : Nat} {b1 : Nat} {v2 : Int32} (hW : qWT R) (hb0 : qok R b0 6) (hb1 : qok R b1 5) {o : (Unit) ⊕ (Int32)} (hx : match o with | .inl _ => AW (Zm l G mX6_lastBoardBefore 2 As R rv I R) 67 [] [] I R | .inr rrv => rv = some (.int rrv) ∧ True) : ∀ n s, qloop (fun s => cX6_lastBoardBefore_7 N R I b0 b1 v2 s) n s = some o → AW (Zm l G mX6_lastBoardBefore 2 As R rv I R) 7 [(0, .ref (G.1 + b0)), (1, .ref (G.1 + b1)), (2, .int v2), (3, .int s)] [] I R := by
  apply qloop_ind
  intro s x hF hc he
  obtain ⟨v3, rfl⟩ : ∃ z, z = s := ⟨s, rfl⟩
  change cX6_lastBoardBefore_7 N R I b0 b1 v2 v3 = some x at hF
  unfold cX6_lastBoardBefore_7 at hF
  show AW _ 7 [(0, .ref (G.1 + b0)), (1, .ref (G.1 + b1)), (2, .int v2), (3, .int v3)] [] I R
  refine aw_iload_n dX6_lastBoardBefore_7 3 rfl rfl ?_
  refine aw_if_le (tgt := 67) dX6_lastBoardBefore_8 (by decide) (fun c1 => ?_) (fun c1 => ?_)
  · rw [if_pos c1] at hF
    cases hF
    have hE := he _ rfl
    subst hE
    exact aw_sub [] rfl hx
  · rw [if_neg c1] at hF
    refine aw_iconst (v := (0 : Int32)) dX6_lastBoardBefore_11 (by decide) ?_
    refine aw_istore (lv' := [(4, .int (0 : Int32)), (0, .ref (G.1 + b0)), (1, .ref (G.1 + b1)), (2, .int v2), (3, .int v3)]) dX6_lastBoardBefore_12 (Nat.le_of_ble_eq_true rfl) rfl ?_
    obtain ⟨o9, eo9, hF⟩ := qbind hF
    refine aw_sub [1, 2, 3, 4, 0] rfl (tX6_lastBoardBefore_14 hW hb0 hb1 (o := o9) ?_ N (0 : Int32) eo9)
    cases o9 with
    | inl e10 =>
      replace hF := qxl hF
      show AW _ 61 [(0, .ref (G.1 + b0)), (1, .ref (G.1 + b1)), (2, .int v2), (3, .int v3)] [] I R
      refine aw_iinc (q := 3) (v := (v3 + (-1))) (lv' := [(3, .int (v3 + (-1))), (0, .ref (G.1 + b0)), (1, .ref (G.1 + b1)), (2, .int v2)]) dX6_lastBoardBefore_61 rfl rfl (Nat.le_of_ble_eq_true rfl) rfl ?_
      refine aw_goto (tgt := 7) dX6_lastBoardBefore_64 (by decide) ?_
      cases hF
      exact aw_sub [1, 2, 3, 0] rfl (hc (v3 + (-1)) rfl)
    | inr q11 =>
      replace hF := qxr hF
      cases hF
      have hE := he _ rfl
      subst hE
      exact hx
def fX6_lastBoardBefore (N : Nat) (R : qR) (I : qI) (a0 : Nat) (a1 : Nat) (p2 : Int32) : Option (Int32) :=
  (qloop (fun s => cX6_lastBoardBefore_7 N R I a0 a1 p2 s) N ((I a1 1) - (1 : Int32))).bind fun o12 =>
  qx o12 (fun e13 =>
    some (-1 : Int32)) (fun q14 => some q14)
set_option maxHeartbeats 4000000 in
set_option maxRecDepth 100000 in
theorem sX6_lastBoardBefore {l : Launch} {G : qG} {N : Nat} {R : qR} {I : qI} {a0 : Nat} {a1 : Nat} {p2 : Int32} {rv : Int32} (hW : qWT R) (ha0 : qok R a0 6) (ha1 : qok R a1 5) (hF : fX6_lastBoardBefore N R I a0 a1 p2 = some rv) : qMt l G mX6_lastBoardBefore 2 [.ref (G.1 + a0), .ref (G.1 + a1), .int p2] I R (some (.int rv)) I R := by
  unfold fX6_lastBoardBefore at hF
  refine qMt_of (by decide) (Nat.le_of_ble_eq_true rfl) ⟨Nat.le_refl _, Nat.le_refl _⟩ ?_
  show AW _ 0 [(0, .ref (G.1 + a0)), (1, .ref (G.1 + a1)), (2, .int p2)] [] I R
  refine aw_aload_n dX6_lastBoardBefore_0 1 rfl rfl ?_
  refine aw_geti fl_X6_111 (by decide) fg_X5_1 ha1 rfl dX6_lastBoardBefore_1 ?_
  refine aw_iconst (v := (1 : Int32)) dX6_lastBoardBefore_4 (by decide) ?_
  refine aw_isub dX6_lastBoardBefore_5 ?_
  refine aw_istore_n (lv' := [(3, .int ((I a1 1) - (1 : Int32))), (0, .ref (G.1 + a0)), (1, .ref (G.1 + a1)), (2, .int p2)]) dX6_lastBoardBefore_6 rfl (Nat.le_of_ble_eq_true rfl) rfl ?_
  obtain ⟨o12, eo12, hF⟩ := qbind hF
  refine aw_sub [1, 2, 3, 0] rfl (tX6_lastBoardBefore_7 hW ha0 ha1 (o := o12) ?_ N ((I a1 1) - (1 : Int32)) eo12)
  cases o12 with
  | inl e13 =>
    replace hF := qxl hF
    show AW _ 67 [] [] I R
    refine aw_iconst (v := (-1 : Int32)) dX6_lastBoardBefore_67 (by decide) ?_
    cases hF
    exact aw_iret rfl dX6_lastBoardBefore_68 rfl rfl rfl
  | inr q14 =>
    replace hF := qxr hF
    cases hF
    exact ⟨rfl, trivial⟩
