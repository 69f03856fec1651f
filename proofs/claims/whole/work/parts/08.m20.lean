def cX8_findColumns_2 (N : Nat) (R : qR) (b0 : Nat) (v1 : Int32) (I : qI) : Option ((Int32 × qI) ⊕ (qI)) :=
  if (I b0 10) ≤ v1 then
    (some (.inr I))
  else
    ((R.1 b0 22).bind fun r2 =>
    (qwr I R r2 v1 v1).bind fun I3 =>
    some (.inl ((v1 + 1), I3)))
set_option maxHeartbeats 4000000 in
set_option maxRecDepth 100000 in
theorem tX8_findColumns_2 {l : Launch} {G : qG} {N : Nat} {R : qR} {As : List Value} {rv : Option Value} {I1 : qI} {b0 : Nat} (hW : qWT R) (hb0 : qok R b0 8) {o : qI} (hx : AW (Zm l G mX8_findColumns 4 As R rv I1 R) 23 [(0, .ref (G.1 + b0))] [] o R) : ∀ n s, qloop (fun s => cX8_findColumns_2 N R b0 s.1 s.2) n s = some o → (match s with | (v1, I) => AW (Zm l G mX8_findColumns 4 As R rv I1 R) 2 [(0, .ref (G.1 + b0)), (1, .int v1)] [] I R) := by
  apply qloop_ind
  intro s x hF hc he
  obtain ⟨v1, I⟩ := s
  change cX8_findColumns_2 N R b0 v1 I = some x at hF
  unfold cX8_findColumns_2 at hF
  show AW _ 2 [(0, .ref (G.1 + b0)), (1, .int v1)] [] I R
  refine aw_iload_n dX8_findColumns_2 1 rfl rfl ?_
  refine aw_aload_n dX8_findColumns_3 0 rfl rfl ?_
  refine aw_geti fl_X8_120 (by decide) fg_X8_10 hb0 rfl dX8_findColumns_4 ?_
  refine aw_icmp_ge (tgt := 23) dX8_findColumns_7 (by decide) (fun c1 => ?_) (fun c1 => ?_)
  · rw [if_pos c1] at hF
    cases hF
    have hE := he _ rfl
    subst hE
    exact aw_sub [0] rfl hx
  · rw [if_neg c1] at hF
    refine aw_aload_n dX8_findColumns_10 0 rfl rfl ?_
    obtain ⟨r2, er2, hF⟩ := qbind hF
    have kr2 : qok R r2 9 := hW.get hb0 er2 rfl
    refine aw_getr fl_X8_63 (by decide) fg_X8_22 hb0 er2 rfl dX8_findColumns_11 ?_
    refine aw_iload_n dX8_findColumns_14 1 rfl rfl ?_
    refine aw_iload_n dX8_findColumns_15 1 rfl rfl ?_
    obtain ⟨I3, eI3, hF⟩ := qbind hF
    refine aw_iastq kr2 eI3 dX8_findColumns_16 ?_
    refine aw_iinc (q := 1) (v := (v1 + 1)) (lv' := [(1, .int (v1 + 1)), (0, .ref (G.1 + b0))]) dX8_findColumns_17 rfl rfl (Nat.le_of_ble_eq_true rfl) rfl ?_
    refine aw_goto (tgt := 2) dX8_findColumns_20 (by decide) ?_
    cases hF
    exact aw_sub [1, 0] rfl (hc ((v1 + 1), I3) rfl)
def cX8_findColumns_52 (N : Nat) (R : qR) (b0 : Nat) (v1 : Int32) (v4 : Int32) (I : qI) : Option ((Int32 × qI) ⊕ (qI)) :=
  if (I b0 10) ≤ v4 then
    (some (.inr I))
  else
    ((R.1 b0 18).bind fun r11 =>
    (R.1 b0 22).bind fun r12 =>
    (qrd I R r12 v4).bind fun x13 =>
    (qwr I R r11 v4 x13).bind fun I14 =>
    some (.inl ((v4 + 1), I14)))
set_option maxHeartbeats 4000000 in
set_option maxRecDepth 100000 in
theorem tX8_findColumns_52 {l : Launch} {G : qG} {N : Nat} {R : qR} {As : List Value} {rv : Option Value} {I1 : qI} {b0 : Nat} {v1 : Int32} (hW : qWT R) (hb0 : qok R b0 8) {o : qI} (hx : AW (Zm l G mX8_findColumns 4 As R rv I1 R) 81 [(0, .ref (G.1 + b0)), (1, .int v1)] [] o R) : ∀ n s, qloop (fun s => cX8_findColumns_52 N R b0 v1 s.1 s.2) n s = some o → (match s with | (v4, I) => AW (Zm l G mX8_findColumns 4 As R rv I1 R) 52 [(0, .ref (G.1 + b0)), (1, .int v1), (4, .int v4)] [] I R) := by
  apply qloop_ind
  intro s x hF hc he
  obtain ⟨v4, I⟩ := s
  change cX8_findColumns_52 N R b0 v1 v4 I = some x at hF
  unfold cX8_findColumns_52 at hF
  show AW _ 52 [(0, .ref (G.1 + b0)), (1, .int v1), (4, .int v4)] [] I R
  refine aw_iload dX8_findColumns_52 2 rfl ?_
  refine aw_aload_n dX8_findColumns_54 0 rfl rfl ?_
  refine aw_geti fl_X8_120 (by decide) fg_X8_10 hb0 rfl dX8_findColumns_55 ?_
  refine aw_icmp_ge (tgt := 81) dX8_findColumns_58 (by decide) (fun c10 => ?_) (fun c10 => ?_)
  · rw [if_pos c10] at hF
    cases hF
    have hE := he _ rfl
    subst hE
    exact aw_sub [0, 1] rfl hx
  · rw [if_neg c10] at hF
    refine aw_aload_n dX8_findColumns_61 0 rfl rfl ?_
    obtain ⟨r11, er11, hF⟩ := qbind hF
    have kr11 : qok R r11 9 := hW.get hb0 er11 rfl
    refine aw_getr fl_X8_53 (by decide) fg_X8_18 hb0 er11 rfl dX8_findColumns_62 ?_
    refine aw_iload dX8_findColumns_65 2 rfl ?_
    refine aw_aload_n dX8_findColumns_67 0 rfl rfl ?_
    obtain ⟨r12, er12, hF⟩ := qbind hF
    have kr12 : qok R r12 9 := hW.get hb0 er12 rfl
    refine aw_getr fl_X8_63 (by decide) fg_X8_22 hb0 er12 rfl dX8_findColumns_68 ?_
    refine aw_iload dX8_findColumns_71 2 rfl ?_
    obtain ⟨x13, ex13, hF⟩ := qbind hF
    refine aw_ialdq kr12 ex13 dX8_findColumns_73 ?_
    obtain ⟨I14, eI14, hF⟩ := qbind hF
    refine aw_iastq kr11 eI14 dX8_findColumns_74 ?_
    refine aw_iinc (q := 2) (v := (v4 + 1)) (lv' := [(4, .int (v4 + 1)), (0, .ref (G.1 + b0)), (1, .int v1)]) dX8_findColumns_75 rfl rfl (Nat.le_of_ble_eq_true rfl) rfl ?_
    refine aw_goto (tgt := 52) dX8_findColumns_78 (by decide) ?_
    cases hF
    exact aw_sub [1, 2, 0] rfl (hc ((v4 + 1), I14) rfl)
def cX8_findColumns_29 (N : Nat) (R : qR) (b0 : Nat) (v1 : Int32) (v2 : Int32) (I : qI) : Option ((Int32 × Int32 × qI) ⊕ (qI)) :=
  if v2 = 0 then
    (some (.inr I))
  else
    ((R.1 b0 22).bind fun r6 =>
    (fX8_breachesOf N R I b0 r6).bind fun y7 =>
    if v1 ≤ y7 then
      ((fX8_goesOn N R I b0).bind fun y9 =>
      some (.inl (v1, y9.1, y9.2)))
    else
      ((qloop (fun s => cX8_findColumns_52 N R b0 y7 s.1 s.2) N ((0 : Int32), I)).bind fun o15 =>
      (fX8_goesOn N R o15 b0).bind fun y16 =>
      some (.inl (y7, y16.1, y16.2))))
set_option maxHeartbeats 4000000 in
set_option maxRecDepth 100000 in
theorem tX8_findColumns_29 {l : Launch} {G : qG} {N : Nat} {R : qR} {As : List Value} {rv : Option Value} {I1 : qI} {b0 : Nat} (hW : qWT R) (hb0 : qok R b0 8) {o : qI} (hx : AW (Zm l G mX8_findColumns 4 As R rv I1 R) 89 [] [] o R) : ∀ n s, qloop (fun s => cX8_findColumns_29 N R b0 s.1 s.2.1 s.2.2) n s = some o → (match s with | (v1, v2, I) => AW (Zm l G mX8_findColumns 4 As R rv I1 R) 29 [(0, .ref (G.1 + b0)), (1, .int v1), (2, .int v2)] [] I R) := by
  apply qloop_ind
  intro s x hF hc he
  obtain ⟨v1, v2, I⟩ := s
  change cX8_findColumns_29 N R b0 v1 v2 I = some x at hF
  unfold cX8_findColumns_29 at hF
  show AW _ 29 [(0, .ref (G.1 + b0)), (1, .int v1), (2, .int v2)] [] I R
  refine aw_iload_n dX8_findColumns_29 2 rfl rfl ?_
  refine aw_if_eq (tgt := 89) dX8_findColumns_30 (by decide) (fun c5 => ?_) (fun c5 => ?_)
  · rw [if_pos c5] at hF
    cases hF
    have hE := he _ rfl
    subst hE
    exact aw_sub [] rfl hx
  · rw [if_neg c5] at hF
    refine aw_aload_n dX8_findColumns_33 0 rfl rfl ?_
    refine aw_aload_n dX8_findColumns_34 0 rfl rfl ?_
    obtain ⟨r6, er6, hF⟩ := qbind hF
    have kr6 : qok R r6 9 := hW.get hb0 er6 rfl
    refine aw_getr fl_X8_63 (by decide) fg_X8_22 hb0 er6 rfl dX8_findColumns_35 ?_
    obtain ⟨y7, ey7, hF⟩ := qbind hF
    refine aw_callVi (As := [.ref (G.1 + r6)]) (sX8_breachesOf hW hb0 kr6 ey7) cl_X8_147 rfl (qroomL (by decide) (by decide)) rfl hb0 (Nat.le_of_ble_eq_true rfl) dX8_findColumns_38 rfl ?_
    refine aw_istore_n (lv' := [(3, .int y7), (0, .ref (G.1 + b0)), (1, .int v1), (2, .int v2)]) dX8_findColumns_41 rfl (Nat.le_of_ble_eq_true rfl) rfl ?_
    refine aw_iload_n dX8_findColumns_42 0 rfl rfl ?_
    refine aw_iload_n dX8_findColumns_43 2 rfl rfl ?_
    refine aw_icmp_ge (tgt := 81) dX8_findColumns_44 (by decide) (fun c8 => ?_) (fun c8 => ?_)
    · rw [if_pos c8] at hF
      refine aw_aload_n dX8_findColumns_81 1 rfl rfl ?_
      obtain ⟨y9, ey9, hF⟩ := qbind hF
      refine aw_callVi (As := []) (sX8_goesOn hW hb0 ey9) cl_X8_151 rfl (qroomL (by decide) (by decide)) rfl hb0 (Nat.le_of_ble_eq_true rfl) dX8_findColumns_82 rfl ?_
      refine aw_istore_n (lv' := [(2, .int y9.1), (3, .int y7), (0, .ref (G.1 + b0)), (1, .int v1)]) dX8_findColumns_85 rfl (Nat.le_of_ble_eq_true rfl) rfl ?_
      refine aw_goto (tgt := 29) dX8_findColumns_86 (by decide) ?_
      cases hF
      exact aw_sub [2, 3, 0] rfl (hc (v1, y9.1, y9.2) rfl)
    · rw [if_neg c8] at hF
      refine aw_iload_n dX8_findColumns_47 0 rfl rfl ?_
      refine aw_istore_n (lv' := [(1, .int y7), (3, .int y7), (0, .ref (G.1 + b0)), (2, .int v2)]) dX8_findColumns_48 rfl (Nat.le_of_ble_eq_true rfl) rfl ?_
      refine aw_iconst (v := (0 : Int32)) dX8_findColumns_49 (by decide) ?_
      refine aw_istore (lv' := [(4, .int (0 : Int32)), (1, .int y7), (3, .int y7), (0, .ref (G.1 + b0)), (2, .int v2)]) dX8_findColumns_50 (Nat.le_of_ble_eq_true rfl) rfl ?_
      obtain ⟨o15, eo15, hF⟩ := qbind hF
      refine aw_sub [3, 1, 0] rfl (tX8_findColumns_52 hW hb0 (o := o15) ?_ N ((0 : Int32), I) eo15)
      show AW _ 81 [(0, .ref (G.1 + b0)), (1, .int y7)] [] o15 R
      refine aw_aload_n dX8_findColumns_81 0 rfl rfl ?_
      obtain ⟨y16, ey16, hF⟩ := qbind hF
      refine aw_callVi (As := []) (sX8_goesOn hW hb0 ey16) cl_X8_151 rfl (qroomL (by decide) (by decide)) rfl hb0 (Nat.le_of_ble_eq_true rfl) dX8_findColumns_82 rfl ?_
      refine aw_istore_n (lv' := [(2, .int y16.1), (0, .ref (G.1 + b0)), (1, .int y7)]) dX8_findColumns_85 rfl (Nat.le_of_ble_eq_true rfl) rfl ?_
      refine aw_goto (tgt := 29) dX8_findColumns_86 (by decide) ?_
      cases hF
      exact aw_sub [1, 2, 0] rfl (hc (y7, y16.1, y16.2) rfl)
def fX8_findColumns (N : Nat) (R : qR) (I : qI) (a0 : Nat) : Option (qI) :=
  (qloop (fun s => cX8_findColumns_2 N R a0 s.1 s.2) N ((0 : Int32), I)).bind fun o4 =>
  (qloop (fun s => cX8_findColumns_29 N R a0 s.1 s.2.1 s.2.2) N ((1000 : Int32), (1 : Int32), o4)).bind fun o17 =>
  some o17
set_option maxHeartbeats 4000000 in
set_option maxRecDepth 100000 in
theorem sX8_findColumns {l : Launch} {G : qG} {N : Nat} {R : qR} {I : qI} {a0 : Nat} {rI : qI} (hW : qWT R) (ha0 : qok R a0 8) (hF : fX8_findColumns N R I a0 = some rI) : qMt l G mX8_findColumns 4 [.ref (G.1 + a0)] I R (none) rI R := by
  unfold fX8_findColumns at hF
  refine qMt_of (by decide) (Nat.le_of_ble_eq_true rfl) ⟨Nat.le_refl _, Nat.le_refl _⟩ ?_
  show AW _ 0 [(0, .ref (G.1 + a0))] [] I R
  refine aw_iconst (v := (0 : Int32)) dX8_findColumns_0 (by decide) ?_
  refine aw_istore_n (lv' := [(1, .int (0 : Int32)), (0, .ref (G.1 + a0))]) dX8_findColumns_1 rfl (Nat.le_of_ble_eq_true rfl) rfl ?_
  obtain ⟨o4, eo4, hF⟩ := qbind hF
  refine aw_sub [1, 0] rfl (tX8_findColumns_2 hW ha0 (o := o4) ?_ N ((0 : Int32), I) eo4)
  show AW _ 23 [(0, .ref (G.1 + a0))] [] o4 R
  refine aw_sipush (v := (1000 : Int32)) dX8_findColumns_23 (by decide) ?_
  refine aw_istore_n (lv' := [(1, .int (1000 : Int32)), (0, .ref (G.1 + a0))]) dX8_findColumns_26 rfl (Nat.le_of_ble_eq_true rfl) rfl ?_
  refine aw_iconst (v := (1 : Int32)) dX8_findColumns_27 (by decide) ?_
  refine aw_istore_n (lv' := [(2, .int (1 : Int32)), (1, .int (1000 : Int32)), (0, .ref (G.1 + a0))]) dX8_findColumns_28 rfl (Nat.le_of_ble_eq_true rfl) rfl ?_
  obtain ⟨o17, eo17, hF⟩ := qbind hF
  refine aw_sub [2, 1, 0] rfl (tX8_findColumns_29 hW ha0 (o := o17) ?_ N ((1000 : Int32), (1 : Int32), o4) eo17)
  show AW _ 89 [] [] o17 R
  cases hF
  exact aw_vret rfl dX8_findColumns_89 rfl rfl rfl
def fX8_first (R : qR) (I : qI) (a0 : Nat) (p1 : Int32) : Option (Int32) :=
  (R.1 a0 17).bind fun r1 =>
  (qrd I R r1 ((7 : Int32) * p1)).bind fun x2 =>
  some x2
set_option maxHeartbeats 4000000 in
set_option maxRecDepth 100000 in
theorem sX8_first {l : Launch} {G : qG} {R : qR} {I : qI} {a0 : Nat} {p1 : Int32} {rv : Int32} (hW : qWT R) (ha0 : qok R a0 8) (hF : fX8_first R I a0 p1 = some rv) : qMt l G mX8_first 1 [.ref (G.1 + a0), .int p1] I R (some (.int rv)) I R := by
  unfold fX8_first at hF
  refine qMt_of (by decide) (Nat.le_of_ble_eq_true rfl) ⟨Nat.le_refl _, Nat.le_refl _⟩ ?_
  show AW _ 0 [(0, .ref (G.1 + a0)), (1, .int p1)] [] I R
  refine aw_aload_n dX8_first_0 0 rfl rfl ?_
  obtain ⟨r1, er1, hF⟩ := qbind hF
  have kr1 : qok R r1 9 := hW.get ha0 er1 rfl
  refine aw_getr fl_X8_50 (by decide) fg_X8_17 ha0 er1 rfl dX8_first_1 ?_
  refine aw_bipush (v := (7 : Int32)) dX8_first_4 (by decide) ?_
  refine aw_iload_n dX8_first_6 1 rfl rfl ?_
  refine aw_imul dX8_first_7 ?_
  obtain ⟨x2, ex2, hF⟩ := qbind hF
  refine aw_ialdq kr1 ex2 dX8_first_8 ?_
  cases hF
  exact aw_iret rfl dX8_first_9 rfl rfl rfl
def fX8_last (R : qR) (I : qI) (a0 : Nat) (p1 : Int32) : Option (Int32) :=
  (R.1 a0 17).bind fun r1 =>
  (R.1 a0 13).bind fun r2 =>
  (qrd I R r2 p1).bind fun x3 =>
  (qrd I R r1 ((((7 : Int32) * p1) + x3) - (1 : Int32))).bind fun x4 =>
  some x4
set_option maxHeartbeats 4000000 in
set_option maxRecDepth 100000 in
theorem sX8_last {l : Launch} {G : qG} {R : qR} {I : qI} {a0 : Nat} {p1 : Int32} {rv : Int32} (hW : qWT R) (ha0 : qok R a0 8) (hF : fX8_last R I a0 p1 = some rv) : qMt l G mX8_last 1 [.ref (G.1 + a0), .int p1] I R (some (.int rv)) I R := by
  unfold fX8_last at hF
  refine qMt_of (by decide) (Nat.le_of_ble_eq_true rfl) ⟨Nat.le_refl _, Nat.le_refl _⟩ ?_
  show AW _ 0 [(0, .ref (G.1 + a0)), (1, .int p1)] [] I R
  refine aw_aload_n dX8_last_0 0 rfl rfl ?_
  obtain ⟨r1, er1, hF⟩ := qbind hF
  have kr1 : qok R r1 9 := hW.get ha0 er1 rfl
  refine aw_getr fl_X8_50 (by decide) fg_X8_17 ha0 er1 rfl dX8_last_1 ?_
  refine aw_bipush (v := (7 : Int32)) dX8_last_4 (by decide) ?_
  refine aw_iload_n dX8_last_6 1 rfl rfl ?_
  refine aw_imul dX8_last_7 ?_
  refine aw_aload_n dX8_last_8 0 rfl rfl ?_
  obtain ⟨r2, er2, hF⟩ := qbind hF
  have kr2 : qok R r2 9 := hW.get ha0 er2 rfl
  refine aw_getr fl_X8_38 (by decide) fg_X8_13 ha0 er2 rfl dX8_last_9 ?_
  refine aw_iload_n dX8_last_12 1 rfl rfl ?_
  obtain ⟨x3, ex3, hF⟩ := qbind hF
  refine aw_ialdq kr2 ex3 dX8_last_13 ?_
  refine aw_iadd dX8_last_14 ?_
  refine aw_iconst (v := (1 : Int32)) dX8_last_15 (by decide) ?_
  refine aw_isub dX8_last_16 ?_
  obtain ⟨x4, ex4, hF⟩ := qbind hF
  refine aw_ialdq kr1 ex4 dX8_last_17 ?_
  cases hF
  exact aw_iret rfl dX8_last_18 rfl rfl rfl
def cX8_isFree_2 (N : Nat) (R : qR) (I : qI) (b0 : Nat) (v1 : Int32) (v2 : Int32) (v3 : Int32) : Option ((Int32) ⊕ ((Unit) ⊕ (Int32))) :=
  if (I b0 10) ≤ v3 then
    (some (.inr (.inl ())))
  else
    ((R.1 b0 19).bind fun r2 =>
    (qrd I R r2 v3).bind fun x3 =>
    if x3 = v1 then
      ((fX8_last R I b0 v3).bind fun y5 =>
      if y5 < v2 then
        (some (.inl (v3 + 1)))
      else
        (some (.inr (.inr (0 : Int32)))))
    else
      (some (.inl (v3 + 1))))
set_option maxHeartbeats 4000000 in
set_option maxRecDepth 100000 in
theorem tX8_isFree_2 {l : Launch} {G : qG} {N : Nat} {R : qR} {I : qI} {As : List Value} {rv : Option Value} {b0 : Nat} {v1 : Int32} {v2 : Int32} (hW : qWT R) (hb0 : qok R b0 8) {o : (Unit) ⊕ (Int32)} (hx : match o with | .inl _ => AW (Zm l G mX8_isFree 2 As R rv I R) 37 [] [] I R | .inr rrv => rv = some (.int rrv) ∧ True) : ∀ n s, qloop (fun s => cX8_isFree_2 N R I b0 v1 v2 s) n s = some o → AW (Zm l G mX8_isFree 2 As R rv I R) 2 [(0, .ref (G.1 + b0)), (1, .int v1), (2, .int v2), (3, .int s)] [] I R := by
  apply qloop_ind
  intro s x hF hc he
  obtain ⟨v3, rfl⟩ : ∃ z, z = s := ⟨s, rfl⟩
  change cX8_isFree_2 N R I b0 v1 v2 v3 = some x at hF
  unfold cX8_isFree_2 at hF
  show AW _ 2 [(0, .ref (G.1 + b0)), (1, .int v1), (2, .int v2), (3, .int v3)] [] I R
  refine aw_iload_n dX8_isFree_2 3 rfl rfl ?_
  refine aw_aload_n dX8_isFree_3 0 rfl rfl ?_
  refine aw_geti fl_X8_120 (by decide) fg_X8_10 hb0 rfl dX8_isFree_4 ?_
  refine aw_icmp_ge (tgt := 37) dX8_isFree_7 (by decide) (fun c1 => ?_) (fun c1 => ?_)
  · rw [if_pos c1] at hF
    cases hF
    have hE := he _ rfl
    subst hE
    exact aw_sub [] rfl hx
  · rw [if_neg c1] at hF
    refine aw_aload_n dX8_isFree_10 0 rfl rfl ?_
    obtain ⟨r2, er2, hF⟩ := qbind hF
    have kr2 : qok R r2 9 := hW.get hb0 er2 rfl
    refine aw_getr fl_X8_56 (by decide) fg_X8_19 hb0 er2 rfl dX8_isFree_11 ?_
    refine aw_iload_n dX8_isFree_14 3 rfl rfl ?_
    obtain ⟨x3, ex3, hF⟩ := qbind hF
    refine aw_ialdq kr2 ex3 dX8_isFree_15 ?_
    refine aw_iload_n dX8_isFree_16 1 rfl rfl ?_
    refine aw_icmp_ne (tgt := 31) dX8_isFree_17 (by decide) (fun c4 => ?_) (fun c4 => ?_)
    · rw [if_neg c4] at hF
      refine aw_iinc (q := 3) (v := (v3 + 1)) (lv' := [(3, .int (v3 + 1)), (0, .ref (G.1 + b0)), (1, .int v1), (2, .int v2)]) dX8_isFree_31 rfl rfl (Nat.le_of_ble_eq_true rfl) rfl ?_
      refine aw_goto (tgt := 2) dX8_isFree_34 (by decide) ?_
      cases hF
      exact aw_sub [1, 2, 3, 0] rfl (hc (v3 + 1) rfl)
    · rw [if_pos c4] at hF
      refine aw_aload_n dX8_isFree_20 0 rfl rfl ?_
      refine aw_iload_n dX8_isFree_21 3 rfl rfl ?_
      obtain ⟨y5, ey5, hF⟩ := qbind hF
      refine aw_callVi (As := [.int v3]) (sX8_last hW hb0 ey5) cl_X8_164 rfl (qroomL (by decide) (by decide)) rfl hb0 (Nat.le_of_ble_eq_true rfl) dX8_isFree_22 rfl ?_
      refine aw_iload_n dX8_isFree_25 2 rfl rfl ?_
      refine aw_icmp_lt (tgt := 31) dX8_isFree_26 (by decide) (fun c6 => ?_) (fun c6 => ?_)
      · rw [if_pos c6] at hF
        refine aw_iinc (q := 3) (v := (v3 + 1)) (lv' := [(3, .int (v3 + 1)), (0, .ref (G.1 + b0)), (1, .int v1), (2, .int v2)]) dX8_isFree_31 rfl rfl (Nat.le_of_ble_eq_true rfl) rfl ?_
        refine aw_goto (tgt := 2) dX8_isFree_34 (by decide) ?_
        cases hF
        exact aw_sub [1, 2, 3, 0] rfl (hc (v3 + 1) rfl)
      · rw [if_neg c6] at hF
        refine aw_iconst (v := (0 : Int32)) dX8_isFree_29 (by decide) ?_
        cases hF
        have hE := he _ rfl
        subst hE
        exact aw_zret rfl (by decide) dX8_isFree_30 hx.1 rfl rfl
def fX8_isFree (N : Nat) (R : qR) (I : qI) (a0 : Nat) (p1 : Int32) (p2 : Int32) : Option (Int32) :=
  (qloop (fun s => cX8_isFree_2 N R I a0 p1 p2 s) N (0 : Int32)).bind fun o7 =>
  qx o7 (fun e8 =>
    some (1 : Int32)) (fun q9 => some q9)
set_option maxHeartbeats 4000000 in
set_option maxRecDepth 100000 in
theorem sX8_isFree {l : Launch} {G : qG} {N : Nat} {R : qR} {I : qI} {a0 : Nat} {p1 : Int32} {p2 : Int32} {rv : Int32} (hW : qWT R) (ha0 : qok R a0 8) (hF : fX8_isFree N R I a0 p1 p2 = some rv) : qMt l G mX8_isFree 2 [.ref (G.1 + a0), .int p1, .int p2] I R (some (.int rv)) I R := by
  unfold fX8_isFree at hF
  refine qMt_of (by decide) (Nat.le_of_ble_eq_true rfl) ⟨Nat.le_refl _, Nat.le_refl _⟩ ?_
  show AW _ 0 [(0, .ref (G.1 + a0)), (1, .int p1), (2, .int p2)] [] I R
  refine aw_iconst (v := (0 : Int32)) dX8_isFree_0 (by decide) ?_
  refine aw_istore_n (lv' := [(3, .int (0 : Int32)), (0, .ref (G.1 + a0)), (1, .int p1), (2, .int p2)]) dX8_isFree_1 rfl (Nat.le_of_ble_eq_true rfl) rfl ?_
  obtain ⟨o7, eo7, hF⟩ := qbind hF
  refine aw_sub [1, 2, 3, 0] rfl (tX8_isFree_2 hW ha0 (o := o7) ?_ N (0 : Int32) eo7)
  cases o7 with
  | inl e8 =>
    replace hF := qxl hF
    show AW _ 37 [] [] I R
    refine aw_iconst (v := (1 : Int32)) dX8_isFree_37 (by decide) ?_
    cases hF
    exact aw_zret rfl (by decide) dX8_isFree_38 rfl rfl rfl
  | inr q9 =>
    replace hF := qxr hF
    cases hF
    exact ⟨rfl, trivial⟩
def cX8_findLanes_2 (N : Nat) (R : qR) (b0 : Nat) (v1 : Int32) (I : qI) : Option ((Int32 × qI) ⊕ (qI)) :=
  if (I b0 10) ≤ v1 then
    (some (.inr I))
  else
    ((R.1 b0 19).bind fun r2 =>
    (qwr I R r2 v1 (-1 : Int32)).bind fun I3 =>
    some (.inl ((v1 + 1), I3)))
set_option maxHeartbeats 4000000 in
set_option maxRecDepth 100000 in
theorem tX8_findLanes_2 {l : Launch} {G : qG} {N : Nat} {R : qR} {As : List Value} {rv : Option Value} {I1 : qI} {b0 : Nat} (hW : qWT R) (hb0 : qok R b0 8) {o : qI} (hx : AW (Zm l G mX8_findLanes 3 As R rv I1 R) 23 [(0, .ref (G.1 + b0))] [] o R) : ∀ n s, qloop (fun s => cX8_findLanes_2 N R b0 s.1 s.2) n s = some o → (match s with | (v1, I) => AW (Zm l G mX8_findLanes 3 As R rv I1 R) 2 [(0, .ref (G.1 + b0)), (1, .int v1)] [] I R) := by
  apply qloop_ind
  intro s x hF hc he
  obtain ⟨v1, I⟩ := s
  change cX8_findLanes_2 N R b0 v1 I = some x at hF
  unfold cX8_findLanes_2 at hF
  show AW _ 2 [(0, .ref (G.1 + b0)), (1, .int v1)] [] I R
  refine aw_iload_n dX8_findLanes_2 1 rfl rfl ?_
  refine aw_aload_n dX8_findLanes_3 0 rfl rfl ?_
  refine aw_geti fl_X8_120 (by decide) fg_X8_10 hb0 rfl dX8_findLanes_4 ?_
  refine aw_icmp_ge (tgt := 23) dX8_findLanes_7 (by decide) (fun c1 => ?_) (fun c1 => ?_)
  · rw [if_pos c1] at hF
    cases hF
    have hE := he _ rfl
    subst hE
    exact aw_sub [0] rfl hx
  · rw [if_neg c1] at hF
    refine aw_aload_n dX8_findLanes_10 0 rfl rfl ?_
    obtain ⟨r2, er2, hF⟩ := qbind hF
    have kr2 : qok R r2 9 := hW.get hb0 er2 rfl
    refine aw_getr fl_X8_56 (by decide) fg_X8_19 hb0 er2 rfl dX8_findLanes_11 ?_
    refine aw_iload_n dX8_findLanes_14 1 rfl rfl ?_
    refine aw_iconst (v := (-1 : Int32)) dX8_findLanes_15 (by decide) ?_
    obtain ⟨I3, eI3, hF⟩ := qbind hF
    refine aw_iastq kr2 eI3 dX8_findLanes_16 ?_
    refine aw_iinc (q := 1) (v := (v1 + 1)) (lv' := [(1, .int (v1 + 1)), (0, .ref (G.1 + b0))]) dX8_findLanes_17 rfl rfl (Nat.le_of_ble_eq_true rfl) rfl ?_
    refine aw_goto (tgt := 2) dX8_findLanes_20 (by decide) ?_
    cases hF
    exact aw_sub [1, 0] rfl (hc ((v1 + 1), I3) rfl)
def cX8_findLanes_62 (N : Nat) (R : qR) (I : qI) (b0 : Nat) (v1 : Int32) (v2 : Int32) (v3 : Int32) : Option ((Int32) ⊕ (Int32)) :=
  (fX8_isFree N R I b0 v3 v1).bind fun y10 =>
  if y10 = 0 then
    (some (.inl (v3 + (1 : Int32))))
  else
    (some (.inr v3))
set_option maxHeartbeats 4000000 in
set_option maxRecDepth 100000 in
theorem tX8_findLanes_62 {l : Launch} {G : qG} {N : Nat} {R : qR} {I : qI} {As : List Value} {rv : Option Value} {I1 : qI} {b0 : Nat} {v1 : Int32} {v2 : Int32} (hW : qWT R) (hb0 : qok R b0 8) {o : Int32} (hx : AW (Zm l G mX8_findLanes 3 As R rv I1 R) 78 [(0, .ref (G.1 + b0)), (1, .int v1), (2, .int v2), (3, .int o)] [] I R) : ∀ n s, qloop (fun s => cX8_findLanes_62 N R I b0 v1 v2 s) n s = some o → AW (Zm l G mX8_findLanes 3 As R rv I1 R) 62 [(0, .ref (G.1 + b0)), (1, .int v1), (2, .int v2), (3, .int s)] [] I R := by
  apply qloop_ind
  intro s x hF hc he
  obtain ⟨v3, rfl⟩ : ∃ z, z = s := ⟨s, rfl⟩
  change cX8_findLanes_62 N R I b0 v1 v2 v3 = some x at hF
  unfold cX8_findLanes_62 at hF
  show AW _ 62 [(0, .ref (G.1 + b0)), (1, .int v1), (2, .int v2), (3, .int v3)] [] I R
  refine aw_aload_n dX8_findLanes_62 0 rfl rfl ?_
  refine aw_iload_n dX8_findLanes_63 3 rfl rfl ?_
  refine aw_iload_n dX8_findLanes_64 1 rfl rfl ?_
  obtain ⟨y10, ey10, hF⟩ := qbind hF
  refine aw_callVi (As := [.int v3, .int v1]) (sX8_isFree hW hb0 ey10) cl_X8_161 rfl (qroomL (by decide) (by decide)) rfl hb0 (Nat.le_of_ble_eq_true rfl) dX8_findLanes_65 rfl ?_
  refine aw_if_ne (tgt := 78) dX8_findLanes_68 (by decide) (fun c11 => ?_) (fun c11 => ?_)
  · rw [if_neg c11] at hF
    cases hF
    have hE := he _ rfl
    subst hE
    exact aw_sub [0, 1, 2, 3] rfl hx
  · rw [if_pos c11] at hF
    refine aw_iload_n dX8_findLanes_71 3 rfl rfl ?_
    refine aw_iconst (v := (1 : Int32)) dX8_findLanes_72 (by decide) ?_
    refine aw_iadd dX8_findLanes_73 ?_
    refine aw_istore_n (lv' := [(3, .int (v3 + (1 : Int32))), (0, .ref (G.1 + b0)), (1, .int v1), (2, .int v2)]) dX8_findLanes_74 rfl (Nat.le_of_ble_eq_true rfl) rfl ?_
    refine aw_goto (tgt := 62) dX8_findLanes_75 (by decide) ?_
    cases hF
    exact aw_sub [1, 2, 3, 0] rfl (hc (v3 + (1 : Int32)) rfl)
def cX8_findLanes_40 (N : Nat) (R : qR) (b0 : Nat) (v1 : Int32) (v2 : Int32) (I : qI) : Option ((Int32 × qI) ⊕ (qI)) :=
  if (I b0 10) ≤ v2 then
    (some (.inr I))
  else
    ((fX8_first R I b0 v2).bind fun y8 =>
    if y8 = v1 then
      ((qloop (fun s => cX8_findLanes_62 N R I b0 v1 v2 s) N (0 : Int32)).bind fun o12 =>
      (R.1 b0 19).bind fun r13 =>
      (qwr I R r13 v2 o12).bind fun I14 =>
      if o12 < (I14 b0 20) then
        (some (.inl ((v2 + 1), I14)))
      else
        (qlet (qup I14 b0 20 (o12 + (1 : Int32))) fun I16 =>
        some (.inl ((v2 + 1), I16))))
    else
      (some (.inl ((v2 + 1), I))))
set_option maxHeartbeats 4000000 in
set_option maxRecDepth 100000 in
theorem tX8_findLanes_40 {l : Launch} {G : qG} {N : Nat} {R : qR} {As : List Value} {rv : Option Value} {I1 : qI} {b0 : Nat} {v1 : Int32} (hW : qWT R) (hb0 : qok R b0 8) {o : qI} (hx : AW (Zm l G mX8_findLanes 3 As R rv I1 R) 106 [(0, .ref (G.1 + b0)), (1, .int v1)] [] o R) : ∀ n s, qloop (fun s => cX8_findLanes_40 N R b0 v1 s.1 s.2) n s = some o → (match s with | (v2, I) => AW (Zm l G mX8_findLanes 3 As R rv I1 R) 40 [(0, .ref (G.1 + b0)), (1, .int v1), (2, .int v2)] [] I R) := by
  apply qloop_ind
  intro s x hF hc he
  obtain ⟨v2, I⟩ := s
  change cX8_findLanes_40 N R b0 v1 v2 I = some x at hF
  unfold cX8_findLanes_40 at hF
  show AW _ 40 [(0, .ref (G.1 + b0)), (1, .int v1), (2, .int v2)] [] I R
  refine aw_iload_n dX8_findLanes_40 2 rfl rfl ?_
  refine aw_aload_n dX8_findLanes_41 0 rfl rfl ?_
  refine aw_geti fl_X8_120 (by decide) fg_X8_10 hb0 rfl dX8_findLanes_42 ?_
  refine aw_icmp_ge (tgt := 106) dX8_findLanes_45 (by decide) (fun c7 => ?_) (fun c7 => ?_)
  · rw [if_pos c7] at hF
    cases hF
    have hE := he _ rfl
    subst hE
    exact aw_sub [0, 1] rfl hx
  · rw [if_neg c7] at hF
    refine aw_aload_n dX8_findLanes_48 0 rfl rfl ?_
    refine aw_iload_n dX8_findLanes_49 2 rfl rfl ?_
    obtain ⟨y8, ey8, hF⟩ := qbind hF
    refine aw_callVi (As := [.int v2]) (sX8_first hW hb0 ey8) cl_X8_158 rfl (qroomL (by decide) (by decide)) rfl hb0 (Nat.le_of_ble_eq_true rfl) dX8_findLanes_50 rfl ?_
    refine aw_iload_n dX8_findLanes_53 1 rfl rfl ?_
    refine aw_icmp_eq (tgt := 60) dX8_findLanes_54 (by decide) (fun c9 => ?_) (fun c9 => ?_)
    · rw [if_pos c9] at hF
      refine aw_iconst (v := (0 : Int32)) dX8_findLanes_60 (by decide) ?_
      refine aw_istore_n (lv' := [(3, .int (0 : Int32)), (0, .ref (G.1 + b0)), (1, .int v1), (2, .int v2)]) dX8_findLanes_61 rfl (Nat.le_of_ble_eq_true rfl) rfl ?_
      obtain ⟨o12, eo12, hF⟩ := qbind hF
      refine aw_sub [1, 2, 3, 0] rfl (tX8_findLanes_62 hW hb0 (o := o12) ?_ N (0 : Int32) eo12)
      show AW _ 78 [(0, .ref (G.1 + b0)), (1, .int v1), (2, .int v2), (3, .int o12)] [] I R
      refine aw_aload_n dX8_findLanes_78 0 rfl rfl ?_
      obtain ⟨r13, er13, hF⟩ := qbind hF
      have kr13 : qok R r13 9 := hW.get hb0 er13 rfl
      refine aw_getr fl_X8_56 (by decide) fg_X8_19 hb0 er13 rfl dX8_findLanes_79 ?_
      refine aw_iload_n dX8_findLanes_82 2 rfl rfl ?_
      refine aw_iload_n dX8_findLanes_83 3 rfl rfl ?_
      obtain ⟨I14, eI14, hF⟩ := qbind hF
      refine aw_iastq kr13 eI14 dX8_findLanes_84 ?_
      refine aw_iload_n dX8_findLanes_85 3 rfl rfl ?_
      refine aw_aload_n dX8_findLanes_86 0 rfl rfl ?_
      refine aw_geti fl_X8_155 (by decide) fg_X8_20 hb0 rfl dX8_findLanes_87 ?_
      refine aw_icmp_lt (tgt := 100) dX8_findLanes_90 (by decide) (fun c15 => ?_) (fun c15 => ?_)
      · rw [if_pos c15] at hF
        refine aw_iinc (q := 2) (v := (v2 + 1)) (lv' := [(2, .int (v2 + 1)), (0, .ref (G.1 + b0)), (1, .int v1), (3, .int o12)]) dX8_findLanes_100 rfl rfl (Nat.le_of_ble_eq_true rfl) rfl ?_
        refine aw_goto (tgt := 40) dX8_findLanes_103 (by decide) ?_
        cases hF
        exact aw_sub [1, 2, 0] rfl (hc ((v2 + 1), I14) rfl)
      · rw [if_neg c15] at hF
        refine aw_aload_n dX8_findLanes_93 0 rfl rfl ?_
        refine aw_iload_n dX8_findLanes_94 3 rfl rfl ?_
        refine aw_iconst (v := (1 : Int32)) dX8_findLanes_95 (by decide) ?_
        refine aw_iadd dX8_findLanes_96 ?_
        obtain ⟨I16, eI16, hF⟩ := qletE hF
        refine aw_putiq fl_X8_155 (by decide) fs_X8_20 fn_X8_20 ft_X8_20 hb0 eI16 rfl dX8_findLanes_97 ?_
        refine aw_iinc (q := 2) (v := (v2 + 1)) (lv' := [(2, .int (v2 + 1)), (0, .ref (G.1 + b0)), (1, .int v1), (3, .int o12)]) dX8_findLanes_100 rfl rfl (Nat.le_of_ble_eq_true rfl) rfl ?_
        refine aw_goto (tgt := 40) dX8_findLanes_103 (by decide) ?_
        cases hF
        exact aw_sub [1, 2, 0] rfl (hc ((v2 + 1), I16) rfl)
    · rw [if_neg c9] at hF
      refine aw_goto (tgt := 100) dX8_findLanes_57 (by decide) ?_
      refine aw_iinc (q := 2) (v := (v2 + 1)) (lv' := [(2, .int (v2 + 1)), (0, .ref (G.1 + b0)), (1, .int v1)]) dX8_findLanes_100 rfl rfl (Nat.le_of_ble_eq_true rfl) rfl ?_
      refine aw_goto (tgt := 40) dX8_findLanes_103 (by decide) ?_
      cases hF
      exact aw_sub [1, 2, 0] rfl (hc ((v2 + 1), I) rfl)
def cX8_findLanes_30 (N : Nat) (R : qR) (b0 : Nat) (v1 : Int32) (I : qI) : Option ((Int32 × qI) ⊕ (qI)) :=
  if (I b0 9) ≤ v1 then
    (some (.inr I))
  else
    ((qloop (fun s => cX8_findLanes_40 N R b0 v1 s.1 s.2) N ((0 : Int32), I)).bind fun o17 =>
    some (.inl ((v1 + 1), o17)))
set_option maxHeartbeats 4000000 in
set_option maxRecDepth 100000 in
theorem tX8_findLanes_30 {l : Launch} {G : qG} {N : Nat} {R : qR} {As : List Value} {rv : Option Value} {I1 : qI} {b0 : Nat} (hW : qWT R) (hb0 : qok R b0 8) {o : qI} (hx : AW (Zm l G mX8_findLanes 3 As R rv I1 R) 112 [] [] o R) : ∀ n s, qloop (fun s => cX8_findLanes_30 N R b0 s.1 s.2) n s = some o → (match s with | (v1, I) => AW (Zm l G mX8_findLanes 3 As R rv I1 R) 30 [(0, .ref (G.1 + b0)), (1, .int v1)] [] I R) := by
  apply qloop_ind
  intro s x hF hc he
  obtain ⟨v1, I⟩ := s
  change cX8_findLanes_30 N R b0 v1 I = some x at hF
  unfold cX8_findLanes_30 at hF
  show AW _ 30 [(0, .ref (G.1 + b0)), (1, .int v1)] [] I R
  refine aw_iload_n dX8_findLanes_30 1 rfl rfl ?_
  refine aw_aload_n dX8_findLanes_31 0 rfl rfl ?_
  refine aw_geti fl_X8_117 (by decide) fg_X8_9 hb0 rfl dX8_findLanes_32 ?_
  refine aw_icmp_ge (tgt := 112) dX8_findLanes_35 (by decide) (fun c6 => ?_) (fun c6 => ?_)
  · rw [if_pos c6] at hF
    cases hF
    have hE := he _ rfl
    subst hE
    exact aw_sub [] rfl hx
  · rw [if_neg c6] at hF
    refine aw_iconst (v := (0 : Int32)) dX8_findLanes_38 (by decide) ?_
    refine aw_istore_n (lv' := [(2, .int (0 : Int32)), (0, .ref (G.1 + b0)), (1, .int v1)]) dX8_findLanes_39 rfl (Nat.le_of_ble_eq_true rfl) rfl ?_
    obtain ⟨o17, eo17, hF⟩ := qbind hF
    refine aw_sub [1, 2, 0] rfl (tX8_findLanes_40 hW hb0 (o := o17) ?_ N ((0 : Int32), I) eo17)
    show AW _ 106 [(0, .ref (G.1 + b0)), (1, .int v1)] [] o17 R
    refine aw_iinc (q := 1) (v := (v1 + 1)) (lv' := [(1, .int (v1 + 1)), (0, .ref (G.1 + b0))]) dX8_findLanes_106 rfl rfl (Nat.le_of_ble_eq_true rfl) rfl ?_
    refine aw_goto (tgt := 30) dX8_findLanes_109 (by decide) ?_
    cases hF
    exact aw_sub [1, 0] rfl (hc ((v1 + 1), o17) rfl)
def fX8_findLanes (N : Nat) (R : qR) (I : qI) (a0 : Nat) : Option (qI) :=
  (qloop (fun s => cX8_findLanes_2 N R a0 s.1 s.2) N ((0 : Int32), I)).bind fun o4 =>
  qlet (qup o4 a0 20 (0 : Int32)) fun I5 =>
  (qloop (fun s => cX8_findLanes_30 N R a0 s.1 s.2) N ((0 : Int32), I5)).bind fun o18 =>
  some o18
set_option maxHeartbeats 4000000 in
set_option maxRecDepth 100000 in
theorem sX8_findLanes {l : Launch} {G : qG} {N : Nat} {R : qR} {I : qI} {a0 : Nat} {rI : qI} (hW : qWT R) (ha0 : qok R a0 8) (hF : fX8_findLanes N R I a0 = some rI) : qMt l G mX8_findLanes 3 [.ref (G.1 + a0)] I R (none) rI R := by
  unfold fX8_findLanes at hF
  refine qMt_of (by decide) (Nat.le_of_ble_eq_true rfl) ⟨Nat.le_refl _, Nat.le_refl _⟩ ?_
  show AW _ 0 [(0, .ref (G.1 + a0))] [] I R
  refine aw_iconst (v := (0 : Int32)) dX8_findLanes_0 (by decide) ?_
  refine aw_istore_n (lv' := [(1, .int (0 : Int32)), (0, .ref (G.1 + a0))]) dX8_findLanes_1 rfl (Nat.le_of_ble_eq_true rfl) rfl ?_
  obtain ⟨o4, eo4, hF⟩ := qbind hF
  refine aw_sub [1, 0] rfl (tX8_findLanes_2 hW ha0 (o := o4) ?_ N ((0 : Int32), I) eo4)
  show AW _ 23 [(0, .ref (G.1 + a0))] [] o4 R
  refine aw_aload_n dX8_findLanes_23 0 rfl rfl ?_
  refine aw_iconst (v := (0 : Int32)) dX8_findLanes_24 (by decide) ?_
  obtain ⟨I5, eI5, hF⟩ := qletE hF
  refine aw_putiq fl_X8_155 (by decide) fs_X8_20 fn_X8_20 ft_X8_20 ha0 eI5 rfl dX8_findLanes_25 ?_
  refine aw_iconst (v := (0 : Int32)) dX8_findLanes_28 (by decide) ?_
  refine aw_istore_n (lv' := [(1, .int (0 : Int32)), (0, .ref (G.1 + a0))]) dX8_findLanes_29 rfl (Nat.le_of_ble_eq_true rfl) rfl ?_
  obtain ⟨o18, eo18, hF⟩ := qbind hF
  refine aw_sub [1, 0] rfl (tX8_findLanes_30 hW ha0 (o := o18) ?_ N ((0 : Int32), I5) eo18)
  show AW _ 112 [] [] o18 R
  cases hF
  exact aw_vret rfl dX8_findLanes_112 rfl rfl rfl
