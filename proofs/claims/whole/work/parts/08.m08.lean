def fX6_canChange (R : qR) (I : qI) (a0 : Nat) (a1 : Nat) (p2 : Int32) (a3 : Nat) (p4 : Int32) : Option (Int32) :=
  (R.1 a3 5).bind fun r1 =>
  (R.1 a1 2).bind fun r2 =>
  (qrd I R r2 p2).bind fun x3 =>
  (qrd I R r1 x3).bind fun x4 =>
  if x4 = (-1 : Int32) then
    (some (0 : Int32))
  else
    (if p4 < x4 then
      (some (0 : Int32))
    else
      ((R.1 a3 4).bind fun r7 =>
      (qrd I R r7 x4).bind fun x8 =>
      (R.1 a1 3).bind fun r9 =>
      (qrd I R r9 p2).bind fun x10 =>
      if x8 < (x10 + (I a0 3)) then
        (some (0 : Int32))
      else
        (some (1 : Int32))))
set_option maxHeartbeats 4000000 in
set_option maxRecDepth 100000 in
theorem sX6_canChange {l : Launch} {G : qG} {R : qR} {I : qI} {a0 : Nat} {a1 : Nat} {p2 : Int32} {a3 : Nat} {p4 : Int32} {rv : Int32} (hW : qWT R) (ha0 : qok R a0 6) (ha1 : qok R a1 5) (ha3 : qok R a3 5) (hF : fX6_canChange R I a0 a1 p2 a3 p4 = some rv) : qMt l G mX6_canChange 1 [.ref (G.1 + a0), .ref (G.1 + a1), .int p2, .ref (G.1 + a3), .int p4] I R (some (.int rv)) I R := by
  unfold fX6_canChange at hF
  refine qMt_of (by decide) (Nat.le_of_ble_eq_true rfl) ⟨Nat.le_refl _, Nat.le_refl _⟩ ?_
  show AW _ 0 [(0, .ref (G.1 + a0)), (1, .ref (G.1 + a1)), (2, .int p2), (3, .ref (G.1 + a3)), (4, .int p4)] [] I R
  refine aw_aload_n dX6_canChange_0 3 rfl rfl ?_
  obtain ⟨r1, er1, hF⟩ := qbind hF
  have kr1 : qok R r1 9 := hW.get ha3 er1 rfl
  refine aw_getr fl_X6_124 (by decide) fg_X5_5 ha3 er1 rfl dX6_canChange_1 ?_
  refine aw_aload_n dX6_canChange_4 1 rfl rfl ?_
  obtain ⟨r2, er2, hF⟩ := qbind hF
  have kr2 : qok R r2 9 := hW.get ha1 er2 rfl
  refine aw_getr fl_X6_88 (by decide) fg_X5_2 ha1 er2 rfl dX6_canChange_5 ?_
  refine aw_iload_n dX6_canChange_8 2 rfl rfl ?_
  obtain ⟨x3, ex3, hF⟩ := qbind hF
  refine aw_ialdq kr2 ex3 dX6_canChange_9 ?_
  obtain ⟨x4, ex4, hF⟩ := qbind hF
  refine aw_ialdq kr1 ex4 dX6_canChange_10 ?_
  refine aw_istore (lv' := [(5, .int x4), (0, .ref (G.1 + a0)), (1, .ref (G.1 + a1)), (2, .int p2), (3, .ref (G.1 + a3)), (4, .int p4)]) dX6_canChange_11 (Nat.le_of_ble_eq_true rfl) rfl ?_
  refine aw_iload dX6_canChange_13 0 rfl ?_
  refine aw_iconst (v := (-1 : Int32)) dX6_canChange_15 (by decide) ?_
  refine aw_icmp_eq (tgt := 51) dX6_canChange_16 (by decide) (fun c5 => ?_) (fun c5 => ?_)
  · rw [if_pos c5] at hF
    refine aw_iconst (v := (0 : Int32)) dX6_canChange_51 (by decide) ?_
    cases hF
    exact aw_zret rfl (by decide) dX6_canChange_52 rfl rfl rfl
  · rw [if_neg c5] at hF
    refine aw_iload dX6_canChange_19 0 rfl ?_
    refine aw_iload dX6_canChange_21 5 rfl ?_
    refine aw_icmp_gt (tgt := 51) dX6_canChange_23 (by decide) (fun c6 => ?_) (fun c6 => ?_)
    · rw [if_pos c6] at hF
      refine aw_iconst (v := (0 : Int32)) dX6_canChange_51 (by decide) ?_
      cases hF
      exact aw_zret rfl (by decide) dX6_canChange_52 rfl rfl rfl
    · rw [if_neg c6] at hF
      refine aw_aload_n dX6_canChange_26 4 rfl rfl ?_
      obtain ⟨r7, er7, hF⟩ := qbind hF
      have kr7 : qok R r7 9 := hW.get ha3 er7 rfl
      refine aw_getr fl_X6_91 (by decide) fg_X5_4 ha3 er7 rfl dX6_canChange_27 ?_
      refine aw_iload dX6_canChange_30 0 rfl ?_
      obtain ⟨x8, ex8, hF⟩ := qbind hF
      refine aw_ialdq kr7 ex8 dX6_canChange_32 ?_
      refine aw_aload_n dX6_canChange_33 2 rfl rfl ?_
      obtain ⟨r9, er9, hF⟩ := qbind hF
      have kr9 : qok R r9 9 := hW.get ha1 er9 rfl
      refine aw_getr fl_X6_94 (by decide) fg_X5_3 ha1 er9 rfl dX6_canChange_34 ?_
      refine aw_iload_n dX6_canChange_37 3 rfl rfl ?_
      obtain ⟨x10, ex10, hF⟩ := qbind hF
      refine aw_ialdq kr9 ex10 dX6_canChange_38 ?_
      refine aw_aload_n dX6_canChange_39 1 rfl rfl ?_
      refine aw_geti fl_X6_49 (by decide) fg_X6_3 ha0 rfl dX6_canChange_40 ?_
      refine aw_iadd dX6_canChange_43 ?_
      refine aw_icmp_lt (tgt := 51) dX6_canChange_44 (by decide) (fun c11 => ?_) (fun c11 => ?_)
      · rw [if_pos c11] at hF
        refine aw_iconst (v := (0 : Int32)) dX6_canChange_51 (by decide) ?_
        cases hF
        exact aw_zret rfl (by decide) dX6_canChange_52 rfl rfl rfl
      · rw [if_neg c11] at hF
        refine aw_iconst (v := (1 : Int32)) dX6_canChange_47 (by decide) ?_
        refine aw_goto (tgt := 52) dX6_canChange_48 (by decide) ?_
        cases hF
        exact aw_zret rfl (by decide) dX6_canChange_52 rfl rfl rfl
def cX6_leastChange_24 (N : Nat) (R : qR) (I : qI) (b0 : Nat) (v1 : Int32) (b2 : Nat) (v3 : Int32) (v4 : Int32) : Option ((Int32 × Int32) ⊕ (Int32)) :=
  if (I b2 1) ≤ v4 then
    (some (.inr v3))
  else
    ((R.1 b0 0).bind fun r8 =>
    (R.1 b0 8).bind fun r9 =>
    (qrd I R r9 (v1 + (1 : Int32))).bind fun x10 =>
    (qra R r8 x10).bind fun r11 =>
    (R.1 b0 9).bind fun r12 =>
    (qrd I R r12 (v1 + (1 : Int32))).bind fun x13 =>
    (fX6_canChange R I b0 b2 v4 r11 x13).bind fun y14 =>
    if y14 = 0 then
      (some (.inl (v3, (v4 + 1))))
    else
      (if v3 = (-1 : Int32) then
        (some (.inl (v4, (v4 + 1))))
      else
        ((R.1 b2 2).bind fun r17 =>
        (qrd I R r17 v4).bind fun x18 =>
        (qrd I R r17 v3).bind fun x19 =>
        if x19 ≤ x18 then
          (some (.inl (v3, (v4 + 1))))
        else
          (some (.inl (v4, (v4 + 1)))))))
set_option maxHeartbeats 4000000 in
set_option maxRecDepth 100000 in
theorem tX6_leastChange_24 {l : Launch} {G : qG} {N : Nat} {R : qR} {I : qI} {As : List Value} {rv : Option Value} {b0 : Nat} {v1 : Int32} {b2 : Nat} (hW : qWT R) (hb0 : qok R b0 6) (hb2 : qok R b2 5) {o : Int32} (hx : AW (Zm l G mX6_leastChange 2 As R rv I R) 94 [(3, .int o)] [] I R) : ∀ n s, qloop (fun s => cX6_leastChange_24 N R I b0 v1 b2 s.1 s.2) n s = some o → (match s with | (v3, v4) => AW (Zm l G mX6_leastChange 2 As R rv I R) 24 [(0, .ref (G.1 + b0)), (1, .int v1), (2, .ref (G.1 + b2)), (3, .int v3), (4, .int v4)] [] I R) := by
  apply qloop_ind
  intro s x hF hc he
  obtain ⟨v3, v4⟩ := s
  change cX6_leastChange_24 N R I b0 v1 b2 v3 v4 = some x at hF
  unfold cX6_leastChange_24 at hF
  show AW _ 24 [(0, .ref (G.1 + b0)), (1, .int v1), (2, .ref (G.1 + b2)), (3, .int v3), (4, .int v4)] [] I R
  refine aw_iload dX6_leastChange_24 4 rfl ?_
  refine aw_aload_n dX6_leastChange_26 2 rfl rfl ?_
  refine aw_geti fl_X6_111 (by decide) fg_X5_1 hb2 rfl dX6_leastChange_27 ?_
  refine aw_icmp_ge (tgt := 94) dX6_leastChange_30 (by decide) (fun c7 => ?_) (fun c7 => ?_)
  · rw [if_pos c7] at hF
    cases hF
    have hE := he _ rfl
    subst hE
    exact aw_sub [3] rfl hx
  · rw [if_neg c7] at hF
    refine aw_aload_n dX6_leastChange_33 0 rfl rfl ?_
    refine aw_aload_n dX6_leastChange_34 2 rfl rfl ?_
    refine aw_iload dX6_leastChange_35 4 rfl ?_
    refine aw_aload_n dX6_leastChange_37 0 rfl rfl ?_
    obtain ⟨r8, er8, hF⟩ := qbind hF
    have kr8 : qok R r8 11 := hW.get hb0 er8 rfl
    refine aw_getr fl_X6_11 (by decide) fg_X6_0 hb0 er8 rfl dX6_leastChange_38 ?_
    refine aw_aload_n dX6_leastChange_41 0 rfl rfl ?_
    obtain ⟨r9, er9, hF⟩ := qbind hF
    have kr9 : qok R r9 9 := hW.get hb0 er9 rfl
    refine aw_getr fl_X6_24 (by decide) fg_X6_8 hb0 er9 rfl dX6_leastChange_42 ?_
    refine aw_iload_n dX6_leastChange_45 1 rfl rfl ?_
    refine aw_iconst (v := (1 : Int32)) dX6_leastChange_46 (by decide) ?_
    refine aw_iadd dX6_leastChange_47 ?_
    obtain ⟨x10, ex10, hF⟩ := qbind hF
    refine aw_ialdq kr9 ex10 dX6_leastChange_48 ?_
    obtain ⟨r11, er11, hF⟩ := qbind hF
    have kr11 : qok R r11 5 := hW.elem kr8 er11
    refine aw_aaldq kr8 er11 dX6_leastChange_49 ?_
    refine aw_aload_n dX6_leastChange_50 0 rfl rfl ?_
    obtain ⟨r12, er12, hF⟩ := qbind hF
    have kr12 : qok R r12 9 := hW.get hb0 er12 rfl
    refine aw_getr fl_X6_27 (by decide) fg_X6_9 hb0 er12 rfl dX6_leastChange_51 ?_
    refine aw_iload_n dX6_leastChange_54 1 rfl rfl ?_
    refine aw_iconst (v := (1 : Int32)) dX6_leastChange_55 (by decide) ?_
    refine aw_iadd dX6_leastChange_56 ?_
    obtain ⟨x13, ex13, hF⟩ := qbind hF
    refine aw_ialdq kr12 ex13 dX6_leastChange_57 ?_
    obtain ⟨y14, ey14, hF⟩ := qbind hF
    refine aw_callVi (As := [.ref (G.1 + b2), .int v4, .ref (G.1 + r11), .int x13]) (sX6_canChange hW hb0 hb2 kr11 ey14) cl_X6_127 rfl (qroomL (by decide) (by decide)) rfl hb0 (Nat.le_of_ble_eq_true rfl) dX6_leastChange_58 rfl ?_
    refine aw_if_eq (tgt := 88) dX6_leastChange_61 (by decide) (fun c15 => ?_) (fun c15 => ?_)
    · rw [if_pos c15] at hF
      refine aw_iinc (q := 4) (v := (v4 + 1)) (lv' := [(4, .int (v4 + 1)), (0, .ref (G.1 + b0)), (1, .int v1), (2, .ref (G.1 + b2)), (3, .int v3)]) dX6_leastChange_88 rfl rfl (Nat.le_of_ble_eq_true rfl) rfl ?_
      refine aw_goto (tgt := 24) dX6_leastChange_91 (by decide) ?_
      cases hF
      exact aw_sub [1, 2, 3, 4, 0] rfl (hc (v3, (v4 + 1)) rfl)
    · rw [if_neg c15] at hF
      refine aw_iload_n dX6_leastChange_64 3 rfl rfl ?_
      refine aw_iconst (v := (-1 : Int32)) dX6_leastChange_65 (by decide) ?_
      refine aw_icmp_eq (tgt := 85) dX6_leastChange_66 (by decide) (fun c16 => ?_) (fun c16 => ?_)
      · rw [if_pos c16] at hF
        refine aw_iload dX6_leastChange_85 4 rfl ?_
        refine aw_istore_n (lv' := [(3, .int v4), (0, .ref (G.1 + b0)), (1, .int v1), (2, .ref (G.1 + b2)), (4, .int v4)]) dX6_leastChange_87 rfl (Nat.le_of_ble_eq_true rfl) rfl ?_
        refine aw_iinc (q := 4) (v := (v4 + 1)) (lv' := [(4, .int (v4 + 1)), (3, .int v4), (0, .ref (G.1 + b0)), (1, .int v1), (2, .ref (G.1 + b2))]) dX6_leastChange_88 rfl rfl (Nat.le_of_ble_eq_true rfl) rfl ?_
        refine aw_goto (tgt := 24) dX6_leastChange_91 (by decide) ?_
        cases hF
        exact aw_sub [2, 3, 4, 1, 0] rfl (hc (v4, (v4 + 1)) rfl)
      · rw [if_neg c16] at hF
        refine aw_aload_n dX6_leastChange_69 2 rfl rfl ?_
        obtain ⟨r17, er17, hF⟩ := qbind hF
        have kr17 : qok R r17 9 := hW.get hb2 er17 rfl
        refine aw_getr fl_X6_88 (by decide) fg_X5_2 hb2 er17 rfl dX6_leastChange_70 ?_
        refine aw_iload dX6_leastChange_73 4 rfl ?_
        obtain ⟨x18, ex18, hF⟩ := qbind hF
        refine aw_ialdq kr17 ex18 dX6_leastChange_75 ?_
        refine aw_aload_n dX6_leastChange_76 2 rfl rfl ?_
        refine aw_getr fl_X6_88 (by decide) fg_X5_2 hb2 er17 rfl dX6_leastChange_77 ?_
        refine aw_iload_n dX6_leastChange_80 3 rfl rfl ?_
        obtain ⟨x19, ex19, hF⟩ := qbind hF
        refine aw_ialdq kr17 ex19 dX6_leastChange_81 ?_
        refine aw_icmp_ge (tgt := 88) dX6_leastChange_82 (by decide) (fun c20 => ?_) (fun c20 => ?_)
        · rw [if_pos c20] at hF
          refine aw_iinc (q := 4) (v := (v4 + 1)) (lv' := [(4, .int (v4 + 1)), (0, .ref (G.1 + b0)), (1, .int v1), (2, .ref (G.1 + b2)), (3, .int v3)]) dX6_leastChange_88 rfl rfl (Nat.le_of_ble_eq_true rfl) rfl ?_
          refine aw_goto (tgt := 24) dX6_leastChange_91 (by decide) ?_
          cases hF
          exact aw_sub [1, 2, 3, 4, 0] rfl (hc (v3, (v4 + 1)) rfl)
        · rw [if_neg c20] at hF
          refine aw_iload dX6_leastChange_85 4 rfl ?_
          refine aw_istore_n (lv' := [(3, .int v4), (0, .ref (G.1 + b0)), (1, .int v1), (2, .ref (G.1 + b2)), (4, .int v4)]) dX6_leastChange_87 rfl (Nat.le_of_ble_eq_true rfl) rfl ?_
          refine aw_iinc (q := 4) (v := (v4 + 1)) (lv' := [(4, .int (v4 + 1)), (3, .int v4), (0, .ref (G.1 + b0)), (1, .int v1), (2, .ref (G.1 + b2))]) dX6_leastChange_88 rfl rfl (Nat.le_of_ble_eq_true rfl) rfl ?_
          refine aw_goto (tgt := 24) dX6_leastChange_91 (by decide) ?_
          cases hF
          exact aw_sub [2, 3, 4, 1, 0] rfl (hc (v4, (v4 + 1)) rfl)
def fX6_leastChange (N : Nat) (R : qR) (I : qI) (a0 : Nat) (p1 : Int32) : Option (Int32) :=
  (R.1 a0 0).bind fun r1 =>
  (R.1 a0 8).bind fun r2 =>
  (qrd I R r2 p1).bind fun x3 =>
  (qra R r1 x3).bind fun r4 =>
  (R.1 a0 10).bind fun r5 =>
  (qrd I R r5 p1).bind fun x6 =>
  (qloop (fun s => cX6_leastChange_24 N R I a0 p1 r4 s.1 s.2) N ((-1 : Int32), (x6 + (1 : Int32)))).bind fun o21 =>
  some (if o21 < (0 : Int32) then (0 : Int32) else o21)
set_option maxHeartbeats 4000000 in
set_option maxRecDepth 100000 in
theorem sX6_leastChange {l : Launch} {G : qG} {N : Nat} {R : qR} {I : qI} {a0 : Nat} {p1 : Int32} {rv : Int32} (hW : qWT R) (ha0 : qok R a0 6) (hF : fX6_leastChange N R I a0 p1 = some rv) : qMt l G mX6_leastChange 2 [.ref (G.1 + a0), .int p1] I R (some (.int rv)) I R := by
  unfold fX6_leastChange at hF
  refine qMt_of (by decide) (Nat.le_of_ble_eq_true rfl) ⟨Nat.le_refl _, Nat.le_refl _⟩ ?_
  show AW _ 0 [(0, .ref (G.1 + a0)), (1, .int p1)] [] I R
  refine aw_aload_n dX6_leastChange_0 0 rfl rfl ?_
  obtain ⟨r1, er1, hF⟩ := qbind hF
  have kr1 : qok R r1 11 := hW.get ha0 er1 rfl
  refine aw_getr fl_X6_11 (by decide) fg_X6_0 ha0 er1 rfl dX6_leastChange_1 ?_
  refine aw_aload_n dX6_leastChange_4 0 rfl rfl ?_
  obtain ⟨r2, er2, hF⟩ := qbind hF
  have kr2 : qok R r2 9 := hW.get ha0 er2 rfl
  refine aw_getr fl_X6_24 (by decide) fg_X6_8 ha0 er2 rfl dX6_leastChange_5 ?_
  refine aw_iload_n dX6_leastChange_8 1 rfl rfl ?_
  obtain ⟨x3, ex3, hF⟩ := qbind hF
  refine aw_ialdq kr2 ex3 dX6_leastChange_9 ?_
  obtain ⟨r4, er4, hF⟩ := qbind hF
  have kr4 : qok R r4 5 := hW.elem kr1 er4
  refine aw_aaldq kr1 er4 dX6_leastChange_10 ?_
  refine aw_astore_n (lv' := [(2, .ref (G.1 + r4)), (0, .ref (G.1 + a0)), (1, .int p1)]) dX6_leastChange_11 rfl (Nat.le_of_ble_eq_true rfl) rfl ?_
  refine aw_iconst (v := (-1 : Int32)) dX6_leastChange_12 (by decide) ?_
  refine aw_istore_n (lv' := [(3, .int (-1 : Int32)), (2, .ref (G.1 + r4)), (0, .ref (G.1 + a0)), (1, .int p1)]) dX6_leastChange_13 rfl (Nat.le_of_ble_eq_true rfl) rfl ?_
  refine aw_aload_n dX6_leastChange_14 2 rfl rfl ?_
  obtain ⟨r5, er5, hF⟩ := qbind hF
  have kr5 : qok R r5 9 := hW.get ha0 er5 rfl
  refine aw_getr fl_X6_30 (by decide) fg_X6_10 ha0 er5 rfl dX6_leastChange_15 ?_
  refine aw_iload_n dX6_leastChange_18 3 rfl rfl ?_
  obtain ⟨x6, ex6, hF⟩ := qbind hF
  refine aw_ialdq kr5 ex6 dX6_leastChange_19 ?_
  refine aw_iconst (v := (1 : Int32)) dX6_leastChange_20 (by decide) ?_
  refine aw_iadd dX6_leastChange_21 ?_
  refine aw_istore (lv' := [(4, .int (x6 + (1 : Int32))), (3, .int (-1 : Int32)), (2, .ref (G.1 + r4)), (0, .ref (G.1 + a0)), (1, .int p1)]) dX6_leastChange_22 (Nat.le_of_ble_eq_true rfl) rfl ?_
  obtain ⟨o21, eo21, hF⟩ := qbind hF
  refine aw_sub [3, 4, 2, 1, 0] rfl (tX6_leastChange_24 hW ha0 kr4 (o := o21) ?_ N ((-1 : Int32), (x6 + (1 : Int32))) eo21)
  show AW _ 94 [(3, .int o21)] [] I R
  refine aw_iload_n dX6_leastChange_94 0 rfl rfl ?_
  refine aw_iconst (v := (0 : Int32)) dX6_leastChange_95 (by decide) ?_
  refine aw_maxq cl_X6_131 rfl (Nat.le_of_ble_eq_true rfl) (by decide) dX6_leastChange_96 ?_
  cases hF
  exact aw_iret rfl dX6_leastChange_99 rfl rfl rfl
def cX6_limitBefore_8 (N : Nat) (R : qR) (I : qI) (b0 : Nat) (b1 : Nat) (b2 : Nat) (v3 : Int32) (v4 : Int32) : Option ((Int32) ⊕ (Int32)) :=
  if v4 ≤ 0 then
    (some (.inr v4))
  else
    ((fX6_canChange R I b0 b1 v4 b2 v3).bind fun y2 =>
    if y2 = 0 then
      (some (.inl (v4 + (-1))))
    else
      (some (.inr v4)))
set_option maxHeartbeats 4000000 in
set_option maxRecDepth 100000 in
theorem tX6_limitBefore_8 {l : Launch} {G : qG} {N : Nat} {R : qR} {I : qI} {As : List Value} {rv : Option Value} {b0 : Nat} {b1 : Nat} {b2 : Nat} {v3 : Int32} (hW : qWT R) (hb0 : qok R b0 6) (hb1 : qok R b1 5) (hb2 : qok R b2 5) {o : Int32} (hx : AW (Zm l G mX6_limitBefore 2 As R rv I R) 31 [(4, .int o)] [] I R) : ∀ n s, qloop (fun s => cX6_limitBefore_8 N R I b0 b1 b2 v3 s) n s = some o → AW (Zm l G mX6_limitBefore 2 As R rv I R) 8 [(0, .ref (G.1 + b0)), (1, .ref (G.1 + b1)), (2, .ref (G.1 + b2)), (3, .int v3), (4, .int s)] [] I R := by
  apply qloop_ind
  intro s x hF hc he
  obtain ⟨v4, rfl⟩ : ∃ z, z = s := ⟨s, rfl⟩
  change cX6_limitBefore_8 N R I b0 b1 b2 v3 v4 = some x at hF
  unfold cX6_limitBefore_8 at hF
  show AW _ 8 [(0, .ref (G.1 + b0)), (1, .ref (G.1 + b1)), (2, .ref (G.1 + b2)), (3, .int v3), (4, .int v4)] [] I R
  refine aw_iload dX6_limitBefore_8 4 rfl ?_
  refine aw_if_le (tgt := 31) dX6_limitBefore_10 (by decide) (fun c1 => ?_) (fun c1 => ?_)
  · rw [if_pos c1] at hF
    cases hF
    have hE := he _ rfl
    subst hE
    exact aw_sub [4] rfl hx
  · rw [if_neg c1] at hF
    refine aw_aload_n dX6_limitBefore_13 0 rfl rfl ?_
    refine aw_aload_n dX6_limitBefore_14 1 rfl rfl ?_
    refine aw_iload dX6_limitBefore_15 4 rfl ?_
    refine aw_aload_n dX6_limitBefore_17 2 rfl rfl ?_
    refine aw_iload_n dX6_limitBefore_18 3 rfl rfl ?_
    obtain ⟨y2, ey2, hF⟩ := qbind hF
    refine aw_callVi (As := [.ref (G.1 + b1), .int v4, .ref (G.1 + b2), .int v3]) (sX6_canChange hW hb0 hb1 hb2 ey2) cl_X6_127 rfl (qroomL (by decide) (by decide)) rfl hb0 (Nat.le_of_ble_eq_true rfl) dX6_limitBefore_19 rfl ?_
    refine aw_if_ne (tgt := 31) dX6_limitBefore_22 (by decide) (fun c3 => ?_) (fun c3 => ?_)
    · rw [if_neg c3] at hF
      cases hF
      have hE := he _ rfl
      subst hE
      exact aw_sub [4] rfl hx
    · rw [if_pos c3] at hF
      refine aw_iinc (q := 4) (v := (v4 + (-1))) (lv' := [(4, .int (v4 + (-1))), (0, .ref (G.1 + b0)), (1, .ref (G.1 + b1)), (2, .ref (G.1 + b2)), (3, .int v3)]) dX6_limitBefore_25 rfl rfl (Nat.le_of_ble_eq_true rfl) rfl ?_
      refine aw_goto (tgt := 8) dX6_limitBefore_28 (by decide) ?_
      cases hF
      exact aw_sub [1, 2, 3, 4, 0] rfl (hc (v4 + (-1)) rfl)
def fX6_limitBefore (N : Nat) (R : qR) (I : qI) (a0 : Nat) (a1 : Nat) (a2 : Nat) (p3 : Int32) : Option (Int32) :=
  (qloop (fun s => cX6_limitBefore_8 N R I a0 a1 a2 p3 s) N ((I a1 1) - (1 : Int32))).bind fun o4 =>
  some (o4 - (1 : Int32))
set_option maxHeartbeats 4000000 in
set_option maxRecDepth 100000 in
theorem sX6_limitBefore {l : Launch} {G : qG} {N : Nat} {R : qR} {I : qI} {a0 : Nat} {a1 : Nat} {a2 : Nat} {p3 : Int32} {rv : Int32} (hW : qWT R) (ha0 : qok R a0 6) (ha1 : qok R a1 5) (ha2 : qok R a2 5) (hF : fX6_limitBefore N R I a0 a1 a2 p3 = some rv) : qMt l G mX6_limitBefore 2 [.ref (G.1 + a0), .ref (G.1 + a1), .ref (G.1 + a2), .int p3] I R (some (.int rv)) I R := by
  unfold fX6_limitBefore at hF
  refine qMt_of (by decide) (Nat.le_of_ble_eq_true rfl) ⟨Nat.le_refl _, Nat.le_refl _⟩ ?_
  show AW _ 0 [(0, .ref (G.1 + a0)), (1, .ref (G.1 + a1)), (2, .ref (G.1 + a2)), (3, .int p3)] [] I R
  refine aw_aload_n dX6_limitBefore_0 1 rfl rfl ?_
  refine aw_geti fl_X6_111 (by decide) fg_X5_1 ha1 rfl dX6_limitBefore_1 ?_
  refine aw_iconst (v := (1 : Int32)) dX6_limitBefore_4 (by decide) ?_
  refine aw_isub dX6_limitBefore_5 ?_
  refine aw_istore (lv' := [(4, .int ((I a1 1) - (1 : Int32))), (0, .ref (G.1 + a0)), (1, .ref (G.1 + a1)), (2, .ref (G.1 + a2)), (3, .int p3)]) dX6_limitBefore_6 (Nat.le_of_ble_eq_true rfl) rfl ?_
  obtain ⟨o4, eo4, hF⟩ := qbind hF
  refine aw_sub [1, 2, 3, 4, 0] rfl (tX6_limitBefore_8 hW ha0 ha1 ha2 (o := o4) ?_ N ((I a1 1) - (1 : Int32)) eo4)
  show AW _ 31 [(4, .int o4)] [] I R
  refine aw_iload dX6_limitBefore_31 0 rfl ?_
  refine aw_iconst (v := (1 : Int32)) dX6_limitBefore_33 (by decide) ?_
  refine aw_isub dX6_limitBefore_34 ?_
  cases hF
  exact aw_iret rfl dX6_limitBefore_35 rfl rfl rfl
def cX6_chooseStations_47 (N : Nat) (R : qR) (b0 : Nat) (v2 : Int32) (v3 : Int32) (I : qI) : Option ((Int32 × qI) ⊕ (qI)) :=
  if v3 ≤ 0 then
    (some (.inr I))
  else
    ((R.1 b0 9).bind fun r13 =>
    (R.1 b0 0).bind fun r14 =>
    (R.1 b0 8).bind fun r15 =>
    (qrd I R r15 v3).bind fun x16 =>
    (qra R r14 x16).bind fun r17 =>
    (qrd I R r15 (v3 + (1 : Int32))).bind fun x18 =>
    (qra R r14 x18).bind fun r19 =>
    (qrd I R r13 (v3 + (1 : Int32))).bind fun x20 =>
    (fX6_limitBefore N R I b0 r17 r19 x20).bind fun y21 =>
    (qwr I R r13 v3 y21).bind fun I22 =>
    some (.inl ((v3 + (-1)), I22)))
set_option maxHeartbeats 4000000 in
set_option maxRecDepth 100000 in
theorem tX6_chooseStations_47 {l : Launch} {G : qG} {N : Nat} {R : qR} {As : List Value} {rv : Option Value} {I1 : qI} {b0 : Nat} {v2 : Int32} (hW : qWT R) (hb0 : qok R b0 6) {o : qI} (hx : AW (Zm l G mX6_chooseStations 3 As R rv I1 R) 99 [(0, .ref (G.1 + b0)), (2, .int v2)] [] o R) : ∀ n s, qloop (fun s => cX6_chooseStations_47 N R b0 v2 s.1 s.2) n s = some o → (match s with | (v3, I) => AW (Zm l G mX6_chooseStations 3 As R rv I1 R) 47 [(0, .ref (G.1 + b0)), (2, .int v2), (3, .int v3)] [] I R) := by
  apply qloop_ind
  intro s x hF hc he
  obtain ⟨v3, I⟩ := s
  change cX6_chooseStations_47 N R b0 v2 v3 I = some x at hF
  unfold cX6_chooseStations_47 at hF
  show AW _ 47 [(0, .ref (G.1 + b0)), (2, .int v2), (3, .int v3)] [] I R
  refine aw_iload_n dX6_chooseStations_47 2 rfl rfl ?_
  refine aw_if_le (tgt := 99) dX6_chooseStations_48 (by decide) (fun c12 => ?_) (fun c12 => ?_)
  · rw [if_pos c12] at hF
    cases hF
    have hE := he _ rfl
    subst hE
    exact aw_sub [0, 1] rfl hx
  · rw [if_neg c12] at hF
    refine aw_aload_n dX6_chooseStations_51 0 rfl rfl ?_
    obtain ⟨r13, er13, hF⟩ := qbind hF
    have kr13 : qok R r13 9 := hW.get hb0 er13 rfl
    refine aw_getr fl_X6_27 (by decide) fg_X6_9 hb0 er13 rfl dX6_chooseStations_52 ?_
    refine aw_iload_n dX6_chooseStations_55 2 rfl rfl ?_
    refine aw_aload_n dX6_chooseStations_56 0 rfl rfl ?_
    refine aw_aload_n dX6_chooseStations_57 0 rfl rfl ?_
    obtain ⟨r14, er14, hF⟩ := qbind hF
    have kr14 : qok R r14 11 := hW.get hb0 er14 rfl
    refine aw_getr fl_X6_11 (by decide) fg_X6_0 hb0 er14 rfl dX6_chooseStations_58 ?_
    refine aw_aload_n dX6_chooseStations_61 0 rfl rfl ?_
    obtain ⟨r15, er15, hF⟩ := qbind hF
    have kr15 : qok R r15 9 := hW.get hb0 er15 rfl
    refine aw_getr fl_X6_24 (by decide) fg_X6_8 hb0 er15 rfl dX6_chooseStations_62 ?_
    refine aw_iload_n dX6_chooseStations_65 2 rfl rfl ?_
    obtain ⟨x16, ex16, hF⟩ := qbind hF
    refine aw_ialdq kr15 ex16 dX6_chooseStations_66 ?_
    obtain ⟨r17, er17, hF⟩ := qbind hF
    have kr17 : qok R r17 5 := hW.elem kr14 er17
    refine aw_aaldq kr14 er17 dX6_chooseStations_67 ?_
    refine aw_aload_n dX6_chooseStations_68 0 rfl rfl ?_
    refine aw_getr fl_X6_11 (by decide) fg_X6_0 hb0 er14 rfl dX6_chooseStations_69 ?_
    refine aw_aload_n dX6_chooseStations_72 0 rfl rfl ?_
    refine aw_getr fl_X6_24 (by decide) fg_X6_8 hb0 er15 rfl dX6_chooseStations_73 ?_
    refine aw_iload_n dX6_chooseStations_76 2 rfl rfl ?_
    refine aw_iconst (v := (1 : Int32)) dX6_chooseStations_77 (by decide) ?_
    refine aw_iadd dX6_chooseStations_78 ?_
    obtain ⟨x18, ex18, hF⟩ := qbind hF
    refine aw_ialdq kr15 ex18 dX6_chooseStations_79 ?_
    obtain ⟨r19, er19, hF⟩ := qbind hF
    have kr19 : qok R r19 5 := hW.elem kr14 er19
    refine aw_aaldq kr14 er19 dX6_chooseStations_80 ?_
    refine aw_aload_n dX6_chooseStations_81 0 rfl rfl ?_
    refine aw_getr fl_X6_27 (by decide) fg_X6_9 hb0 er13 rfl dX6_chooseStations_82 ?_
    refine aw_iload_n dX6_chooseStations_85 2 rfl rfl ?_
    refine aw_iconst (v := (1 : Int32)) dX6_chooseStations_86 (by decide) ?_
    refine aw_iadd dX6_chooseStations_87 ?_
    obtain ⟨x20, ex20, hF⟩ := qbind hF
    refine aw_ialdq kr13 ex20 dX6_chooseStations_88 ?_
    obtain ⟨y21, ey21, hF⟩ := qbind hF
    refine aw_callVi (As := [.ref (G.1 + r17), .ref (G.1 + r19), .int x20]) (sX6_limitBefore hW hb0 kr17 kr19 ey21) cl_X6_146 rfl (qroomL (by decide) (by decide)) rfl hb0 (Nat.le_of_ble_eq_true rfl) dX6_chooseStations_89 rfl ?_
    obtain ⟨I22, eI22, hF⟩ := qbind hF
    refine aw_iastq kr13 eI22 dX6_chooseStations_92 ?_
    refine aw_iinc (q := 2) (v := (v3 + (-1))) (lv' := [(3, .int (v3 + (-1))), (0, .ref (G.1 + b0)), (2, .int v2)]) dX6_chooseStations_93 rfl rfl (Nat.le_of_ble_eq_true rfl) rfl ?_
    refine aw_goto (tgt := 47) dX6_chooseStations_96 (by decide) ?_
    cases hF
    exact aw_sub [1, 2, 0] rfl (hc ((v3 + (-1)), I22) rfl)
def cX6_chooseStations_101 (N : Nat) (R : qR) (b0 : Nat) (v2 : Int32) (v3 : Int32) (I : qI) : Option ((Int32 × qI) ⊕ (qI)) :=
  if v2 ≤ v3 then
    (some (.inr I))
  else
    ((R.1 b0 11).bind fun r25 =>
    (fX6_leastChange N R I b0 v3).bind fun y26 =>
    (qwr I R r25 v3 y26).bind fun I27 =>
    (R.1 b0 10).bind fun r28 =>
    (R.1 b0 0).bind fun r29 =>
    (R.1 b0 8).bind fun r30 =>
    (qrd I27 R r30 (v3 + (1 : Int32))).bind fun x31 =>
    (qra R r29 x31).bind fun r32 =>
    (R.1 r32 5).bind fun r33 =>
    (qrd I27 R r30 v3).bind fun x34 =>
    (qra R r29 x34).bind fun r35 =>
    (R.1 r35 2).bind fun r36 =>
    (qrd I27 R r25 v3).bind fun x37 =>
    (qrd I27 R r36 x37).bind fun x38 =>
    (qrd I27 R r33 x38).bind fun x39 =>
    (qwr I27 R r28 (v3 + (1 : Int32)) x39).bind fun I40 =>
    some (.inl ((v3 + 1), I40)))
set_option maxHeartbeats 4000000 in
set_option maxRecDepth 100000 in
theorem tX6_chooseStations_101 {l : Launch} {G : qG} {N : Nat} {R : qR} {As : List Value} {rv : Option Value} {I1 : qI} {b0 : Nat} {v2 : Int32} (hW : qWT R) (hb0 : qok R b0 6) {o : qI} (hx : AW (Zm l G mX6_chooseStations 3 As R rv I1 R) 169 [] [] o R) : ∀ n s, qloop (fun s => cX6_chooseStations_101 N R b0 v2 s.1 s.2) n s = some o → (match s with | (v3, I) => AW (Zm l G mX6_chooseStations 3 As R rv I1 R) 101 [(0, .ref (G.1 + b0)), (2, .int v2), (3, .int v3)] [] I R) := by
  apply qloop_ind
  intro s x hF hc he
  obtain ⟨v3, I⟩ := s
  change cX6_chooseStations_101 N R b0 v2 v3 I = some x at hF
  unfold cX6_chooseStations_101 at hF
  show AW _ 101 [(0, .ref (G.1 + b0)), (2, .int v2), (3, .int v3)] [] I R
  refine aw_iload_n dX6_chooseStations_101 2 rfl rfl ?_
  refine aw_iload_n dX6_chooseStations_102 1 rfl rfl ?_
  refine aw_icmp_ge (tgt := 169) dX6_chooseStations_103 (by decide) (fun c24 => ?_) (fun c24 => ?_)
  · rw [if_pos c24] at hF
    cases hF
    have hE := he _ rfl
    subst hE
    exact aw_sub [] rfl hx
  · rw [if_neg c24] at hF
    refine aw_aload_n dX6_chooseStations_106 0 rfl rfl ?_
    obtain ⟨r25, er25, hF⟩ := qbind hF
    have kr25 : qok R r25 9 := hW.get hb0 er25 rfl
    refine aw_getr fl_X6_33 (by decide) fg_X6_11 hb0 er25 rfl dX6_chooseStations_107 ?_
    refine aw_iload_n dX6_chooseStations_110 2 rfl rfl ?_
    refine aw_aload_n dX6_chooseStations_111 0 rfl rfl ?_
    refine aw_iload_n dX6_chooseStations_112 2 rfl rfl ?_
    obtain ⟨y26, ey26, hF⟩ := qbind hF
    refine aw_callVi (As := [.int v3]) (sX6_leastChange hW hb0 ey26) cl_X6_150 rfl (qroomL (by decide) (by decide)) rfl hb0 (Nat.le_of_ble_eq_true rfl) dX6_chooseStations_113 rfl ?_
    obtain ⟨I27, eI27, hF⟩ := qbind hF
    refine aw_iastq kr25 eI27 dX6_chooseStations_116 ?_
    refine aw_aload_n dX6_chooseStations_117 0 rfl rfl ?_
    obtain ⟨r28, er28, hF⟩ := qbind hF
    have kr28 : qok R r28 9 := hW.get hb0 er28 rfl
    refine aw_getr fl_X6_30 (by decide) fg_X6_10 hb0 er28 rfl dX6_chooseStations_118 ?_
    refine aw_iload_n dX6_chooseStations_121 2 rfl rfl ?_
    refine aw_iconst (v := (1 : Int32)) dX6_chooseStations_122 (by decide) ?_
    refine aw_iadd dX6_chooseStations_123 ?_
    refine aw_aload_n dX6_chooseStations_124 0 rfl rfl ?_
    obtain ⟨r29, er29, hF⟩ := qbind hF
    have kr29 : qok R r29 11 := hW.get hb0 er29 rfl
    refine aw_getr fl_X6_11 (by decide) fg_X6_0 hb0 er29 rfl dX6_chooseStations_125 ?_
    refine aw_aload_n dX6_chooseStations_128 0 rfl rfl ?_
    obtain ⟨r30, er30, hF⟩ := qbind hF
    have kr30 : qok R r30 9 := hW.get hb0 er30 rfl
    refine aw_getr fl_X6_24 (by decide) fg_X6_8 hb0 er30 rfl dX6_chooseStations_129 ?_
    refine aw_iload_n dX6_chooseStations_132 2 rfl rfl ?_
    refine aw_iconst (v := (1 : Int32)) dX6_chooseStations_133 (by decide) ?_
    refine aw_iadd dX6_chooseStations_134 ?_
    obtain ⟨x31, ex31, hF⟩ := qbind hF
    refine aw_ialdq kr30 ex31 dX6_chooseStations_135 ?_
    obtain ⟨r32, er32, hF⟩ := qbind hF
    have kr32 : qok R r32 5 := hW.elem kr29 er32
    refine aw_aaldq kr29 er32 dX6_chooseStations_136 ?_
    obtain ⟨r33, er33, hF⟩ := qbind hF
    have kr33 : qok R r33 9 := hW.get kr32 er33 rfl
    refine aw_getr fl_X6_124 (by decide) fg_X5_5 kr32 er33 rfl dX6_chooseStations_137 ?_
    refine aw_aload_n dX6_chooseStations_140 0 rfl rfl ?_
    refine aw_getr fl_X6_11 (by decide) fg_X6_0 hb0 er29 rfl dX6_chooseStations_141 ?_
    refine aw_aload_n dX6_chooseStations_144 0 rfl rfl ?_
    refine aw_getr fl_X6_24 (by decide) fg_X6_8 hb0 er30 rfl dX6_chooseStations_145 ?_
    refine aw_iload_n dX6_chooseStations_148 2 rfl rfl ?_
    obtain ⟨x34, ex34, hF⟩ := qbind hF
    refine aw_ialdq kr30 ex34 dX6_chooseStations_149 ?_
    obtain ⟨r35, er35, hF⟩ := qbind hF
    have kr35 : qok R r35 5 := hW.elem kr29 er35
    refine aw_aaldq kr29 er35 dX6_chooseStations_150 ?_
    obtain ⟨r36, er36, hF⟩ := qbind hF
    have kr36 : qok R r36 9 := hW.get kr35 er36 rfl
    refine aw_getr fl_X6_88 (by decide) fg_X5_2 kr35 er36 rfl dX6_chooseStations_151 ?_
    refine aw_aload_n dX6_chooseStations_154 0 rfl rfl ?_
    refine aw_getr fl_X6_33 (by decide) fg_X6_11 hb0 er25 rfl dX6_chooseStations_155 ?_
    refine aw_iload_n dX6_chooseStations_158 2 rfl rfl ?_
    obtain ⟨x37, ex37, hF⟩ := qbind hF
    refine aw_ialdq kr25 ex37 dX6_chooseStations_159 ?_
    obtain ⟨x38, ex38, hF⟩ := qbind hF
    refine aw_ialdq kr36 ex38 dX6_chooseStations_160 ?_
    obtain ⟨x39, ex39, hF⟩ := qbind hF
    refine aw_ialdq kr33 ex39 dX6_chooseStations_161 ?_
    obtain ⟨I40, eI40, hF⟩ := qbind hF
    refine aw_iastq kr28 eI40 dX6_chooseStations_162 ?_
    refine aw_iinc (q := 2) (v := (v3 + 1)) (lv' := [(3, .int (v3 + 1)), (0, .ref (G.1 + b0)), (2, .int v2)]) dX6_chooseStations_163 rfl rfl (Nat.le_of_ble_eq_true rfl) rfl ?_
    refine aw_goto (tgt := 101) dX6_chooseStations_166 (by decide) ?_
    cases hF
    exact aw_sub [1, 2, 0] rfl (hc ((v3 + 1), I40) rfl)
def fX6_chooseStations (N : Nat) (R : qR) (I : qI) (a0 : Nat) (p1 : Int32) : Option (qI) :=
  (R.1 a0 11).bind fun r1 =>
  (R.1 a0 0).bind fun r2 =>
  (R.1 a0 8).bind fun r3 =>
  (qrd I R r3 ((I a0 7) - (1 : Int32))).bind fun x4 =>
  (qra R r2 x4).bind fun r5 =>
  (R.1 r5 5).bind fun r6 =>
  (qrd I R r6 p1).bind fun x7 =>
  (qwr I R r1 ((I a0 7) - (1 : Int32)) x7).bind fun I8 =>
  (R.1 a0 9).bind fun r9 =>
  (qrd I8 R r1 ((I a0 7) - (1 : Int32))).bind fun x10 =>
  (qwr I8 R r9 ((I a0 7) - (1 : Int32)) (x10 - (1 : Int32))).bind fun I11 =>
  (qloop (fun s => cX6_chooseStations_47 N R a0 ((I a0 7) - (1 : Int32)) s.1 s.2) N ((((I a0 7) - (1 : Int32)) - (1 : Int32)), I11)).bind fun o23 =>
  (qloop (fun s => cX6_chooseStations_101 N R a0 ((I a0 7) - (1 : Int32)) s.1 s.2) N ((0 : Int32), o23)).bind fun o41 =>
  some o41
set_option maxHeartbeats 4000000 in
set_option maxRecDepth 100000 in
theorem sX6_chooseStations {l : Launch} {G : qG} {N : Nat} {R : qR} {I : qI} {a0 : Nat} {p1 : Int32} {rI : qI} (hW : qWT R) (ha0 : qok R a0 6) (hF : fX6_chooseStations N R I a0 p1 = some rI) : qMt l G mX6_chooseStations 3 [.ref (G.1 + a0), .int p1] I R (none) rI R := by
  unfold fX6_chooseStations at hF
  refine qMt_of (by decide) (Nat.le_of_ble_eq_true rfl) ⟨Nat.le_refl _, Nat.le_refl _⟩ ?_
  show AW _ 0 [(0, .ref (G.1 + a0)), (1, .int p1)] [] I R
  refine aw_aload_n dX6_chooseStations_0 0 rfl rfl ?_
  refine aw_geti fl_X6_72 (by decide) fg_X6_7 ha0 rfl dX6_chooseStations_1 ?_
  refine aw_iconst (v := (1 : Int32)) dX6_chooseStations_4 (by decide) ?_
  refine aw_isub dX6_chooseStations_5 ?_
  refine aw_istore_n (lv' := [(2, .int ((I a0 7) - (1 : Int32))), (0, .ref (G.1 + a0)), (1, .int p1)]) dX6_chooseStations_6 rfl (Nat.le_of_ble_eq_true rfl) rfl ?_
  refine aw_aload_n dX6_chooseStations_7 1 rfl rfl ?_
  obtain ⟨r1, er1, hF⟩ := qbind hF
  have kr1 : qok R r1 9 := hW.get ha0 er1 rfl
  refine aw_getr fl_X6_33 (by decide) fg_X6_11 ha0 er1 rfl dX6_chooseStations_8 ?_
  refine aw_iload_n dX6_chooseStations_11 0 rfl rfl ?_
  refine aw_aload_n dX6_chooseStations_12 1 rfl rfl ?_
  obtain ⟨r2, er2, hF⟩ := qbind hF
  have kr2 : qok R r2 11 := hW.get ha0 er2 rfl
  refine aw_getr fl_X6_11 (by decide) fg_X6_0 ha0 er2 rfl dX6_chooseStations_13 ?_
  refine aw_aload_n dX6_chooseStations_16 1 rfl rfl ?_
  obtain ⟨r3, er3, hF⟩ := qbind hF
  have kr3 : qok R r3 9 := hW.get ha0 er3 rfl
  refine aw_getr fl_X6_24 (by decide) fg_X6_8 ha0 er3 rfl dX6_chooseStations_17 ?_
  refine aw_iload_n dX6_chooseStations_20 0 rfl rfl ?_
  obtain ⟨x4, ex4, hF⟩ := qbind hF
  refine aw_ialdq kr3 ex4 dX6_chooseStations_21 ?_
  obtain ⟨r5, er5, hF⟩ := qbind hF
  have kr5 : qok R r5 5 := hW.elem kr2 er5
  refine aw_aaldq kr2 er5 dX6_chooseStations_22 ?_
  obtain ⟨r6, er6, hF⟩ := qbind hF
  have kr6 : qok R r6 9 := hW.get kr5 er6 rfl
  refine aw_getr fl_X6_124 (by decide) fg_X5_5 kr5 er6 rfl dX6_chooseStations_23 ?_
  refine aw_iload_n dX6_chooseStations_26 2 rfl rfl ?_
  obtain ⟨x7, ex7, hF⟩ := qbind hF
  refine aw_ialdq kr6 ex7 dX6_chooseStations_27 ?_
  obtain ⟨I8, eI8, hF⟩ := qbind hF
  refine aw_iastq kr1 eI8 dX6_chooseStations_28 ?_
  refine aw_aload_n dX6_chooseStations_29 1 rfl rfl ?_
  obtain ⟨r9, er9, hF⟩ := qbind hF
  have kr9 : qok R r9 9 := hW.get ha0 er9 rfl
  refine aw_getr fl_X6_27 (by decide) fg_X6_9 ha0 er9 rfl dX6_chooseStations_30 ?_
  refine aw_iload_n dX6_chooseStations_33 0 rfl rfl ?_
  refine aw_aload_n dX6_chooseStations_34 1 rfl rfl ?_
  refine aw_getr fl_X6_33 (by decide) fg_X6_11 ha0 er1 rfl dX6_chooseStations_35 ?_
  refine aw_iload_n dX6_chooseStations_38 0 rfl rfl ?_
  obtain ⟨x10, ex10, hF⟩ := qbind hF
  refine aw_ialdq kr1 ex10 dX6_chooseStations_39 ?_
  refine aw_iconst (v := (1 : Int32)) dX6_chooseStations_40 (by decide) ?_
  refine aw_isub dX6_chooseStations_41 ?_
  obtain ⟨I11, eI11, hF⟩ := qbind hF
  refine aw_iastq kr9 eI11 dX6_chooseStations_42 ?_
  refine aw_iload_n dX6_chooseStations_43 0 rfl rfl ?_
  refine aw_iconst (v := (1 : Int32)) dX6_chooseStations_44 (by decide) ?_
  refine aw_isub dX6_chooseStations_45 ?_
  refine aw_istore_n (lv' := [(3, .int (((I a0 7) - (1 : Int32)) - (1 : Int32))), (2, .int ((I a0 7) - (1 : Int32))), (0, .ref (G.1 + a0)), (1, .int p1)]) dX6_chooseStations_46 rfl (Nat.le_of_ble_eq_true rfl) rfl ?_
  obtain ⟨o23, eo23, hF⟩ := qbind hF
  refine aw_sub [2, 1, 0] rfl (tX6_chooseStations_47 hW ha0 (o := o23) ?_ N ((((I a0 7) - (1 : Int32)) - (1 : Int32)), I11) eo23)
  show AW _ 99 [(0, .ref (G.1 + a0)), (2, .int ((I a0 7) - (1 : Int32)))] [] o23 R
  refine aw_iconst (v := (0 : Int32)) dX6_chooseStations_99 (by decide) ?_
  refine aw_istore_n (lv' := [(3, .int (0 : Int32)), (0, .ref (G.1 + a0)), (2, .int ((I a0 7) - (1 : Int32)))]) dX6_chooseStations_100 rfl (Nat.le_of_ble_eq_true rfl) rfl ?_
  obtain ⟨o41, eo41, hF⟩ := qbind hF
  refine aw_sub [1, 2, 0] rfl (tX6_chooseStations_101 hW ha0 (o := o41) ?_ N ((0 : Int32), o23) eo41)
  show AW _ 169 [] [] o41 R
  cases hF
  exact aw_vret rfl dX6_chooseStations_169 rfl rfl rfl
