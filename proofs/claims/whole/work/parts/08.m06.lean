def cX4_takeMembers_7 (N : Nat) (R : qR) (b0 : Nat) (b1 : Nat) (v2 : Int32) (v3 : Int32) (I : qI) : Option ((Int32 × qI) ⊕ (qI)) :=
  if (Int32.ofNat (R.2.1 b1).2) ≤ v3 then
    (some (.inr I))
  else
    (if (6 : Int32) ≤ (I b0 6) then
      (some (.inr I))
    else
      (if ((v2 >>> (v3 &&& 31)) &&& (1 : Int32)) = 0 then
        (some (.inl ((v3 + 1), I)))
      else
        ((R.1 b0 0).bind fun r5 =>
        (qra R r5 (I b0 6)).bind fun r6 =>
        (qra R b1 v3).bind fun r7 =>
        (fX5_copy R I r6 r7).bind fun y8 =>
        (R.1 b0 1).bind fun r9 =>
        (qwr y8 R r9 (y8 b0 6) v3).bind fun I10 =>
        qlet (qup I10 b0 6 ((I10 b0 6) + (1 : Int32))) fun I11 =>
        some (.inl ((v3 + 1), I11)))))
set_option maxHeartbeats 4000000 in
set_option maxRecDepth 100000 in
theorem tX4_takeMembers_7 {l : Launch} {G : qG} {N : Nat} {R : qR} {As : List Value} {rv : Option Value} {I1 : qI} {b0 : Nat} {b1 : Nat} {v2 : Int32} (hW : qWT R) (hb0 : qok R b0 4) (hb1 : qok R b1 11) {o : qI} (hx : AW (Zm l G mX4_takeMembers 2 As R rv I1 R) 71 [] [] o R) : ∀ n s, qloop (fun s => cX4_takeMembers_7 N R b0 b1 v2 s.1 s.2) n s = some o → (match s with | (v3, I) => AW (Zm l G mX4_takeMembers 2 As R rv I1 R) 7 [(0, .ref (G.1 + b0)), (1, .ref (G.1 + b1)), (2, .int v2), (3, .int v3)] [] I R) := by
  apply qloop_ind
  intro s x hF hc he
  obtain ⟨v3, I⟩ := s
  change cX4_takeMembers_7 N R b0 b1 v2 v3 I = some x at hF
  unfold cX4_takeMembers_7 at hF
  show AW _ 7 [(0, .ref (G.1 + b0)), (1, .ref (G.1 + b1)), (2, .int v2), (3, .int v3)] [] I R
  refine aw_iload_n dX4_takeMembers_7 3 rfl rfl ?_
  refine aw_aload_n dX4_takeMembers_8 1 rfl rfl ?_
  refine aw_alen hb1 (Or.inr rfl) rfl dX4_takeMembers_9 ?_
  refine aw_icmp_ge (tgt := 71) dX4_takeMembers_10 (by decide) (fun c2 => ?_) (fun c2 => ?_)
  · rw [if_pos c2] at hF
    cases hF
    have hE := he _ rfl
    subst hE
    exact aw_sub [] rfl hx
  · rw [if_neg c2] at hF
    refine aw_aload_n dX4_takeMembers_13 0 rfl rfl ?_
    refine aw_geti fl_X4_50 (by decide) fg_X4_6 hb0 rfl dX4_takeMembers_14 ?_
    refine aw_bipush (v := (6 : Int32)) dX4_takeMembers_17 (by decide) ?_
    refine aw_icmp_ge (tgt := 71) dX4_takeMembers_19 (by decide) (fun c3 => ?_) (fun c3 => ?_)
    · rw [if_pos c3] at hF
      cases hF
      have hE := he _ rfl
      subst hE
      exact aw_sub [] rfl hx
    · rw [if_neg c3] at hF
      refine aw_iload_n dX4_takeMembers_22 2 rfl rfl ?_
      refine aw_iload_n dX4_takeMembers_23 3 rfl rfl ?_
      refine aw_ishr dX4_takeMembers_24 ?_
      refine aw_iconst (v := (1 : Int32)) dX4_takeMembers_25 (by decide) ?_
      refine aw_iand dX4_takeMembers_26 ?_
      refine aw_if_eq (tgt := 65) dX4_takeMembers_27 (by decide) (fun c4 => ?_) (fun c4 => ?_)
      · rw [if_pos c4] at hF
        refine aw_iinc (q := 3) (v := (v3 + 1)) (lv' := [(3, .int (v3 + 1)), (0, .ref (G.1 + b0)), (1, .ref (G.1 + b1)), (2, .int v2)]) dX4_takeMembers_65 rfl rfl (Nat.le_of_ble_eq_true rfl) rfl ?_
        refine aw_goto (tgt := 7) dX4_takeMembers_68 (by decide) ?_
        cases hF
        exact aw_sub [1, 2, 3, 0] rfl (hc ((v3 + 1), I) rfl)
      · rw [if_neg c4] at hF
        refine aw_aload_n dX4_takeMembers_30 0 rfl rfl ?_
        obtain ⟨r5, er5, hF⟩ := qbind hF
        have kr5 : qok R r5 11 := hW.get hb0 er5 rfl
        refine aw_getr fl_X4_11 (by decide) fg_X4_0 hb0 er5 rfl dX4_takeMembers_31 ?_
        refine aw_aload_n dX4_takeMembers_34 0 rfl rfl ?_
        refine aw_geti fl_X4_50 (by decide) fg_X4_6 hb0 rfl dX4_takeMembers_35 ?_
        obtain ⟨r6, er6, hF⟩ := qbind hF
        have kr6 : qok R r6 5 := hW.elem kr5 er6
        refine aw_aaldq kr5 er6 dX4_takeMembers_38 ?_
        refine aw_aload_n dX4_takeMembers_39 1 rfl rfl ?_
        refine aw_iload_n dX4_takeMembers_40 3 rfl rfl ?_
        obtain ⟨r7, er7, hF⟩ := qbind hF
        have kr7 : qok R r7 5 := hW.elem hb1 er7
        refine aw_aaldq hb1 er7 dX4_takeMembers_41 ?_
        obtain ⟨y8, ey8, hF⟩ := qbind hF
        refine aw_callVv (As := [.ref (G.1 + r7)]) (sX5_copy hW kr6 kr7 ey8) cl_X4_108 rfl (qroomL (by decide) (by decide)) rfl kr6 (Nat.le_of_ble_eq_true rfl) dX4_takeMembers_42 rfl ?_
        refine aw_aload_n dX4_takeMembers_45 0 rfl rfl ?_
        obtain ⟨r9, er9, hF⟩ := qbind hF
        have kr9 : qok R r9 9 := hW.get hb0 er9 rfl
        refine aw_getr fl_X4_17 (by decide) fg_X4_1 hb0 er9 rfl dX4_takeMembers_46 ?_
        refine aw_aload_n dX4_takeMembers_49 0 rfl rfl ?_
        refine aw_geti fl_X4_50 (by decide) fg_X4_6 hb0 rfl dX4_takeMembers_50 ?_
        refine aw_iload_n dX4_takeMembers_53 3 rfl rfl ?_
        obtain ⟨I10, eI10, hF⟩ := qbind hF
        refine aw_iastq kr9 eI10 dX4_takeMembers_54 ?_
        refine aw_aload_n dX4_takeMembers_55 0 rfl rfl ?_
        refine aw_dup dX4_takeMembers_56 rfl ?_
        refine aw_geti fl_X4_50 (by decide) fg_X4_6 hb0 rfl dX4_takeMembers_57 ?_
        refine aw_iconst (v := (1 : Int32)) dX4_takeMembers_60 (by decide) ?_
        refine aw_iadd dX4_takeMembers_61 ?_
        obtain ⟨I11, eI11, hF⟩ := qletE hF
        refine aw_putiq fl_X4_50 (by decide) fs_X4_6 fn_X4_6 ft_X4_6 hb0 eI11 rfl dX4_takeMembers_62 ?_
        refine aw_iinc (q := 3) (v := (v3 + 1)) (lv' := [(3, .int (v3 + 1)), (0, .ref (G.1 + b0)), (1, .ref (G.1 + b1)), (2, .int v2)]) dX4_takeMembers_65 rfl rfl (Nat.le_of_ble_eq_true rfl) rfl ?_
        refine aw_goto (tgt := 7) dX4_takeMembers_68 (by decide) ?_
        cases hF
        exact aw_sub [1, 2, 3, 0] rfl (hc ((v3 + 1), I11) rfl)
def fX4_takeMembers (N : Nat) (R : qR) (I : qI) (a0 : Nat) (a1 : Nat) (p2 : Int32) : Option (qI) :=
  qlet (qup I a0 6 (0 : Int32)) fun I1 =>
  (qloop (fun s => cX4_takeMembers_7 N R a0 a1 p2 s.1 s.2) N ((0 : Int32), I1)).bind fun o12 =>
  some o12
set_option maxHeartbeats 4000000 in
set_option maxRecDepth 100000 in
theorem sX4_takeMembers {l : Launch} {G : qG} {N : Nat} {R : qR} {I : qI} {a0 : Nat} {a1 : Nat} {p2 : Int32} {rI : qI} (hW : qWT R) (ha0 : qok R a0 4) (ha1 : qok R a1 11) (hF : fX4_takeMembers N R I a0 a1 p2 = some rI) : qMt l G mX4_takeMembers 2 [.ref (G.1 + a0), .ref (G.1 + a1), .int p2] I R (none) rI R := by
  unfold fX4_takeMembers at hF
  refine qMt_of (by decide) (Nat.le_of_ble_eq_true rfl) ⟨Nat.le_refl _, Nat.le_refl _⟩ ?_
  show AW _ 0 [(0, .ref (G.1 + a0)), (1, .ref (G.1 + a1)), (2, .int p2)] [] I R
  refine aw_aload_n dX4_takeMembers_0 0 rfl rfl ?_
  refine aw_iconst (v := (0 : Int32)) dX4_takeMembers_1 (by decide) ?_
  obtain ⟨I1, eI1, hF⟩ := qletE hF
  refine aw_putiq fl_X4_50 (by decide) fs_X4_6 fn_X4_6 ft_X4_6 ha0 eI1 rfl dX4_takeMembers_2 ?_
  refine aw_iconst (v := (0 : Int32)) dX4_takeMembers_5 (by decide) ?_
  refine aw_istore_n (lv' := [(3, .int (0 : Int32)), (0, .ref (G.1 + a0)), (1, .ref (G.1 + a1)), (2, .int p2)]) dX4_takeMembers_6 rfl (Nat.le_of_ble_eq_true rfl) rfl ?_
  obtain ⟨o12, eo12, hF⟩ := qbind hF
  refine aw_sub [1, 2, 3, 0] rfl (tX4_takeMembers_7 hW ha0 ha1 (o := o12) ?_ N ((0 : Int32), I1) eo12)
  show AW _ 71 [] [] o12 R
  cases hF
  exact aw_vret rfl dX4_takeMembers_71 rfl rfl rfl
def fX4_isMade (R : qR) (I : qI) (a0 : Nat) : Option (Int32) :=
  if (I a0 6) ≤ 0 then
    (some (0 : Int32))
  else
    (some (1 : Int32))
set_option maxHeartbeats 4000000 in
set_option maxRecDepth 100000 in
theorem sX4_isMade {l : Launch} {G : qG} {R : qR} {I : qI} {a0 : Nat} {rv : Int32} (hW : qWT R) (ha0 : qok R a0 4) (hF : fX4_isMade R I a0 = some rv) : qMt l G mX4_isMade 1 [.ref (G.1 + a0)] I R (some (.int rv)) I R := by
  unfold fX4_isMade at hF
  refine qMt_of (by decide) (Nat.le_of_ble_eq_true rfl) ⟨Nat.le_refl _, Nat.le_refl _⟩ ?_
  show AW _ 0 [(0, .ref (G.1 + a0))] [] I R
  refine aw_aload_n dX4_isMade_0 0 rfl rfl ?_
  refine aw_geti fl_X4_50 (by decide) fg_X4_6 ha0 rfl dX4_isMade_1 ?_
  refine aw_if_le (tgt := 11) dX4_isMade_4 (by decide) (fun c1 => ?_) (fun c1 => ?_)
  · rw [if_pos c1] at hF
    refine aw_iconst (v := (0 : Int32)) dX4_isMade_11 (by decide) ?_
    cases hF
    exact aw_zret rfl (by decide) dX4_isMade_12 rfl rfl rfl
  · rw [if_neg c1] at hF
    refine aw_iconst (v := (1 : Int32)) dX4_isMade_7 (by decide) ?_
    refine aw_goto (tgt := 12) dX4_isMade_8 (by decide) ?_
    cases hF
    exact aw_zret rfl (by decide) dX4_isMade_12 rfl rfl rfl
def fX4_rowCount (R : qR) (I : qI) (a0 : Nat) : Option (Int32) :=
  (R.1 a0 3).bind fun r1 =>
  some (I r1 0)
set_option maxHeartbeats 4000000 in
set_option maxRecDepth 100000 in
theorem sX4_rowCount {l : Launch} {G : qG} {R : qR} {I : qI} {a0 : Nat} {rv : Int32} (hW : qWT R) (ha0 : qok R a0 4) (hF : fX4_rowCount R I a0 = some rv) : qMt l G mX4_rowCount 1 [.ref (G.1 + a0)] I R (some (.int rv)) I R := by
  unfold fX4_rowCount at hF
  refine qMt_of (by decide) (Nat.le_of_ble_eq_true rfl) ⟨Nat.le_refl _, Nat.le_refl _⟩ ?_
  show AW _ 0 [(0, .ref (G.1 + a0))] [] I R
  refine aw_aload_n dX4_rowCount_0 0 rfl rfl ?_
  obtain ⟨r1, er1, hF⟩ := qbind hF
  have kr1 : qok R r1 2 := hW.get ha0 er1 rfl
  refine aw_getr fl_X4_27 (by decide) fg_X4_3 ha0 er1 rfl dX4_rowCount_1 ?_
  refine aw_geti fl_X4_67 (by decide) fg_X2_0 kr1 rfl dX4_rowCount_4 ?_
  cases hF
  exact aw_iret rfl dX4_rowCount_7 rfl rfl rfl
def fX4_columnCount (R : qR) (I : qI) (a0 : Nat) : Option (Int32) :=
  some (I a0 6)
set_option maxHeartbeats 4000000 in
set_option maxRecDepth 100000 in
theorem sX4_columnCount {l : Launch} {G : qG} {R : qR} {I : qI} {a0 : Nat} {rv : Int32} (hW : qWT R) (ha0 : qok R a0 4) (hF : fX4_columnCount R I a0 = some rv) : qMt l G mX4_columnCount 1 [.ref (G.1 + a0)] I R (some (.int rv)) I R := by
  unfold fX4_columnCount at hF
  refine qMt_of (by decide) (Nat.le_of_ble_eq_true rfl) ⟨Nat.le_refl _, Nat.le_refl _⟩ ?_
  show AW _ 0 [(0, .ref (G.1 + a0))] [] I R
  refine aw_aload_n dX4_columnCount_0 0 rfl rfl ?_
  refine aw_geti fl_X4_50 (by decide) fg_X4_6 ha0 rfl dX4_columnCount_1 ?_
  cases hF
  exact aw_iret rfl dX4_columnCount_4 rfl rfl rfl
def fX4_hasRow (R : qR) (I : qI) (a0 : Nat) (p1 : Int32) : Option (Int32) :=
  if p1 < 0 then
    (some (0 : Int32))
  else
    ((R.1 a0 3).bind fun r2 =>
    if (I r2 0) ≤ p1 then
      (some (0 : Int32))
    else
      (some (1 : Int32)))
set_option maxHeartbeats 4000000 in
set_option maxRecDepth 100000 in
theorem sX4_hasRow {l : Launch} {G : qG} {R : qR} {I : qI} {a0 : Nat} {p1 : Int32} {rv : Int32} (hW : qWT R) (ha0 : qok R a0 4) (hF : fX4_hasRow R I a0 p1 = some rv) : qMt l G mX4_hasRow 1 [.ref (G.1 + a0), .int p1] I R (some (.int rv)) I R := by
  unfold fX4_hasRow at hF
  refine qMt_of (by decide) (Nat.le_of_ble_eq_true rfl) ⟨Nat.le_refl _, Nat.le_refl _⟩ ?_
  show AW _ 0 [(0, .ref (G.1 + a0)), (1, .int p1)] [] I R
  refine aw_iload_n dX4_hasRow_0 1 rfl rfl ?_
  refine aw_if_lt (tgt := 19) dX4_hasRow_1 (by decide) (fun c1 => ?_) (fun c1 => ?_)
  · rw [if_pos c1] at hF
    refine aw_iconst (v := (0 : Int32)) dX4_hasRow_19 (by decide) ?_
    cases hF
    exact aw_zret rfl (by decide) dX4_hasRow_20 rfl rfl rfl
  · rw [if_neg c1] at hF
    refine aw_iload_n dX4_hasRow_4 1 rfl rfl ?_
    refine aw_aload_n dX4_hasRow_5 0 rfl rfl ?_
    obtain ⟨r2, er2, hF⟩ := qbind hF
    have kr2 : qok R r2 2 := hW.get ha0 er2 rfl
    refine aw_getr fl_X4_27 (by decide) fg_X4_3 ha0 er2 rfl dX4_hasRow_6 ?_
    refine aw_geti fl_X4_67 (by decide) fg_X2_0 kr2 rfl dX4_hasRow_9 ?_
    refine aw_icmp_ge (tgt := 19) dX4_hasRow_12 (by decide) (fun c3 => ?_) (fun c3 => ?_)
    · rw [if_pos c3] at hF
      refine aw_iconst (v := (0 : Int32)) dX4_hasRow_19 (by decide) ?_
      cases hF
      exact aw_zret rfl (by decide) dX4_hasRow_20 rfl rfl rfl
    · rw [if_neg c3] at hF
      refine aw_iconst (v := (1 : Int32)) dX4_hasRow_15 (by decide) ?_
      refine aw_goto (tgt := 20) dX4_hasRow_16 (by decide) ?_
      cases hF
      exact aw_zret rfl (by decide) dX4_hasRow_20 rfl rfl rfl
def fX4_hasColumn (R : qR) (I : qI) (a0 : Nat) (p1 : Int32) : Option (Int32) :=
  if p1 < 0 then
    (some (0 : Int32))
  else
    (if (I a0 6) ≤ p1 then
      (some (0 : Int32))
    else
      (some (1 : Int32)))
set_option maxHeartbeats 4000000 in
set_option maxRecDepth 100000 in
theorem sX4_hasColumn {l : Launch} {G : qG} {R : qR} {I : qI} {a0 : Nat} {p1 : Int32} {rv : Int32} (hW : qWT R) (ha0 : qok R a0 4) (hF : fX4_hasColumn R I a0 p1 = some rv) : qMt l G mX4_hasColumn 1 [.ref (G.1 + a0), .int p1] I R (some (.int rv)) I R := by
  unfold fX4_hasColumn at hF
  refine qMt_of (by decide) (Nat.le_of_ble_eq_true rfl) ⟨Nat.le_refl _, Nat.le_refl _⟩ ?_
  show AW _ 0 [(0, .ref (G.1 + a0)), (1, .int p1)] [] I R
  refine aw_iload_n dX4_hasColumn_0 1 rfl rfl ?_
  refine aw_if_lt (tgt := 16) dX4_hasColumn_1 (by decide) (fun c1 => ?_) (fun c1 => ?_)
  · rw [if_pos c1] at hF
    refine aw_iconst (v := (0 : Int32)) dX4_hasColumn_16 (by decide) ?_
    cases hF
    exact aw_zret rfl (by decide) dX4_hasColumn_17 rfl rfl rfl
  · rw [if_neg c1] at hF
    refine aw_iload_n dX4_hasColumn_4 1 rfl rfl ?_
    refine aw_aload_n dX4_hasColumn_5 0 rfl rfl ?_
    refine aw_geti fl_X4_50 (by decide) fg_X4_6 ha0 rfl dX4_hasColumn_6 ?_
    refine aw_icmp_ge (tgt := 16) dX4_hasColumn_9 (by decide) (fun c2 => ?_) (fun c2 => ?_)
    · rw [if_pos c2] at hF
      refine aw_iconst (v := (0 : Int32)) dX4_hasColumn_16 (by decide) ?_
      cases hF
      exact aw_zret rfl (by decide) dX4_hasColumn_17 rfl rfl rfl
    · rw [if_neg c2] at hF
      refine aw_iconst (v := (1 : Int32)) dX4_hasColumn_12 (by decide) ?_
      refine aw_goto (tgt := 17) dX4_hasColumn_13 (by decide) ?_
      cases hF
      exact aw_zret rfl (by decide) dX4_hasColumn_17 rfl rfl rfl
def fX4_stationOf (R : qR) (I : qI) (a0 : Nat) (p1 : Int32) : Option (Int32) :=
  (R.1 a0 3).bind fun r1 =>
  (R.1 r1 1).bind fun r2 =>
  (qrd I R r2 p1).bind fun x3 =>
  some x3
set_option maxHeartbeats 4000000 in
set_option maxRecDepth 100000 in
theorem sX4_stationOf {l : Launch} {G : qG} {R : qR} {I : qI} {a0 : Nat} {p1 : Int32} {rv : Int32} (hW : qWT R) (ha0 : qok R a0 4) (hF : fX4_stationOf R I a0 p1 = some rv) : qMt l G mX4_stationOf 1 [.ref (G.1 + a0), .int p1] I R (some (.int rv)) I R := by
  unfold fX4_stationOf at hF
  refine qMt_of (by decide) (Nat.le_of_ble_eq_true rfl) ⟨Nat.le_refl _, Nat.le_refl _⟩ ?_
  show AW _ 0 [(0, .ref (G.1 + a0)), (1, .int p1)] [] I R
  refine aw_aload_n dX4_stationOf_0 0 rfl rfl ?_
  obtain ⟨r1, er1, hF⟩ := qbind hF
  have kr1 : qok R r1 2 := hW.get ha0 er1 rfl
  refine aw_getr fl_X4_27 (by decide) fg_X4_3 ha0 er1 rfl dX4_stationOf_1 ?_
  obtain ⟨r2, er2, hF⟩ := qbind hF
  have kr2 : qok R r2 9 := hW.get kr1 er2 rfl
  refine aw_getr fl_X4_70 (by decide) fg_X2_1 kr1 er2 rfl dX4_stationOf_4 ?_
  refine aw_iload_n dX4_stationOf_7 1 rfl rfl ?_
  obtain ⟨x3, ex3, hF⟩ := qbind hF
  refine aw_ialdq kr2 ex3 dX4_stationOf_8 ?_
  cases hF
  exact aw_iret rfl dX4_stationOf_9 rfl rfl rfl
def fX4_trainOf (R : qR) (I : qI) (a0 : Nat) (p1 : Int32) : Option (Int32) :=
  (R.1 a0 1).bind fun r1 =>
  (R.1 a0 4).bind fun r2 =>
  (R.1 r2 0).bind fun r3 =>
  (qrd I R r3 p1).bind fun x4 =>
  (qrd I R r1 x4).bind fun x5 =>
  some x5
set_option maxHeartbeats 4000000 in
set_option maxRecDepth 100000 in
theorem sX4_trainOf {l : Launch} {G : qG} {R : qR} {I : qI} {a0 : Nat} {p1 : Int32} {rv : Int32} (hW : qWT R) (ha0 : qok R a0 4) (hF : fX4_trainOf R I a0 p1 = some rv) : qMt l G mX4_trainOf 1 [.ref (G.1 + a0), .int p1] I R (some (.int rv)) I R := by
  unfold fX4_trainOf at hF
  refine qMt_of (by decide) (Nat.le_of_ble_eq_true rfl) ⟨Nat.le_refl _, Nat.le_refl _⟩ ?_
  show AW _ 0 [(0, .ref (G.1 + a0)), (1, .int p1)] [] I R
  refine aw_aload_n dX4_trainOf_0 0 rfl rfl ?_
  obtain ⟨r1, er1, hF⟩ := qbind hF
  have kr1 : qok R r1 9 := hW.get ha0 er1 rfl
  refine aw_getr fl_X4_17 (by decide) fg_X4_1 ha0 er1 rfl dX4_trainOf_1 ?_
  refine aw_aload_n dX4_trainOf_4 0 rfl rfl ?_
  obtain ⟨r2, er2, hF⟩ := qbind hF
  have kr2 : qok R r2 0 := hW.get ha0 er2 rfl
  refine aw_getr fl_X4_34 (by decide) fg_X4_4 ha0 er2 rfl dX4_trainOf_5 ?_
  obtain ⟨r3, er3, hF⟩ := qbind hF
  have kr3 : qok R r3 9 := hW.get kr2 er3 rfl
  refine aw_getr fl_X4_73 (by decide) fg_X0_0 kr2 er3 rfl dX4_trainOf_8 ?_
  refine aw_iload_n dX4_trainOf_11 1 rfl rfl ?_
  obtain ⟨x4, ex4, hF⟩ := qbind hF
  refine aw_ialdq kr3 ex4 dX4_trainOf_12 ?_
  obtain ⟨x5, ex5, hF⟩ := qbind hF
  refine aw_ialdq kr1 ex5 dX4_trainOf_13 ?_
  cases hF
  exact aw_iret rfl dX4_trainOf_14 rfl rfl rfl
def cX4_read_36 (N : Nat) (R : qR) (I : qI) (b0 : Nat) (v1 : Int32) (v3 : Int32) (v4 : Int32) (v5 : Int32) : Option ((Int32) ⊕ ((Unit) ⊕ (Int32))) :=
  (R.1 b0 0).bind fun r8 =>
  (qra R r8 v4).bind fun r9 =>
  if (I r9 1) ≤ v5 then
    (some (.inr (.inl ())))
  else
    ((R.1 b0 2).bind fun r11 =>
    (qrd I R r11 ((v4 * (7 : Int32)) + v5)).bind fun x12 =>
    if x12 = v1 then
      (if v3 = 0 then
        ((R.1 r9 4).bind fun r15 =>
        (qrd I R r15 v5).bind fun x16 =>
        some (.inr (.inr x16)))
      else
        ((R.1 r9 3).bind fun r17 =>
        (qrd I R r17 v5).bind fun x18 =>
        some (.inr (.inr x18))))
    else
      (some (.inl (v5 + 1))))
set_option maxHeartbeats 4000000 in
set_option maxRecDepth 100000 in
theorem tX4_read_36 {l : Launch} {G : qG} {N : Nat} {R : qR} {I : qI} {As : List Value} {rv : Option Value} {b0 : Nat} {v1 : Int32} {v3 : Int32} {v4 : Int32} (hW : qWT R) (hb0 : qok R b0 4) {o : (Unit) ⊕ (Int32)} (hx : match o with | .inl _ => AW (Zm l G mX4_read 2 As R rv I R) 108 [] [] I R | .inr rrv => rv = some (.int rrv) ∧ True) : ∀ n s, qloop (fun s => cX4_read_36 N R I b0 v1 v3 v4 s) n s = some o → AW (Zm l G mX4_read 2 As R rv I R) 36 [(0, .ref (G.1 + b0)), (1, .int v1), (3, .int v3), (4, .int v4), (5, .int s)] [] I R := by
  apply qloop_ind
  intro s x hF hc he
  obtain ⟨v5, rfl⟩ : ∃ z, z = s := ⟨s, rfl⟩
  change cX4_read_36 N R I b0 v1 v3 v4 v5 = some x at hF
  unfold cX4_read_36 at hF
  show AW _ 36 [(0, .ref (G.1 + b0)), (1, .int v1), (3, .int v3), (4, .int v4), (5, .int v5)] [] I R
  refine aw_iload dX4_read_36 4 rfl ?_
  refine aw_aload_n dX4_read_38 0 rfl rfl ?_
  obtain ⟨r8, er8, hF⟩ := qbind hF
  have kr8 : qok R r8 11 := hW.get hb0 er8 rfl
  refine aw_getr fl_X4_11 (by decide) fg_X4_0 hb0 er8 rfl dX4_read_39 ?_
  refine aw_iload dX4_read_42 3 rfl ?_
  obtain ⟨r9, er9, hF⟩ := qbind hF
  have kr9 : qok R r9 5 := hW.elem kr8 er9
  refine aw_aaldq kr8 er9 dX4_read_44 ?_
  refine aw_geti fl_X4_83 (by decide) fg_X5_1 kr9 rfl dX4_read_45 ?_
  refine aw_icmp_ge (tgt := 108) dX4_read_48 (by decide) (fun c10 => ?_) (fun c10 => ?_)
  · rw [if_pos c10] at hF
    cases hF
    have hE := he _ rfl
    subst hE
    exact aw_sub [] rfl hx
  · rw [if_neg c10] at hF
    refine aw_aload_n dX4_read_51 0 rfl rfl ?_
    obtain ⟨r11, er11, hF⟩ := qbind hF
    have kr11 : qok R r11 9 := hW.get hb0 er11 rfl
    refine aw_getr fl_X4_21 (by decide) fg_X4_2 hb0 er11 rfl dX4_read_52 ?_
    refine aw_iload dX4_read_55 3 rfl ?_
    refine aw_bipush (v := (7 : Int32)) dX4_read_57 (by decide) ?_
    refine aw_imul dX4_read_59 ?_
    refine aw_iload dX4_read_60 4 rfl ?_
    refine aw_iadd dX4_read_62 ?_
    obtain ⟨x12, ex12, hF⟩ := qbind hF
    refine aw_ialdq kr11 ex12 dX4_read_63 ?_
    refine aw_iload_n dX4_read_64 1 rfl rfl ?_
    refine aw_icmp_ne (tgt := 102) dX4_read_65 (by decide) (fun c13 => ?_) (fun c13 => ?_)
    · rw [if_neg c13] at hF
      refine aw_iinc (q := 4) (v := (v5 + 1)) (lv' := [(5, .int (v5 + 1)), (0, .ref (G.1 + b0)), (1, .int v1), (3, .int v3), (4, .int v4)]) dX4_read_102 rfl rfl (Nat.le_of_ble_eq_true rfl) rfl ?_
      refine aw_goto (tgt := 36) dX4_read_105 (by decide) ?_
      cases hF
      exact aw_sub [1, 2, 3, 4, 0] rfl (hc (v5 + 1) rfl)
    · rw [if_pos c13] at hF
      refine aw_iload_n dX4_read_68 2 rfl rfl ?_
      refine aw_if_eq (tgt := 88) dX4_read_69 (by decide) (fun c14 => ?_) (fun c14 => ?_)
      · rw [if_pos c14] at hF
        refine aw_aload_n dX4_read_88 0 rfl rfl ?_
        refine aw_getr fl_X4_11 (by decide) fg_X4_0 hb0 er8 rfl dX4_read_89 ?_
        refine aw_iload dX4_read_92 3 rfl ?_
        refine aw_aaldq kr8 er9 dX4_read_94 ?_
        obtain ⟨r15, er15, hF⟩ := qbind hF
        have kr15 : qok R r15 9 := hW.get kr9 er15 rfl
        refine aw_getr fl_X4_89 (by decide) fg_X5_4 kr9 er15 rfl dX4_read_95 ?_
        refine aw_iload dX4_read_98 4 rfl ?_
        obtain ⟨x16, ex16, hF⟩ := qbind hF
        refine aw_ialdq kr15 ex16 dX4_read_100 ?_
        cases hF
        have hE := he _ rfl
        subst hE
        exact aw_iret rfl dX4_read_101 hx.1 rfl rfl
      · rw [if_neg c14] at hF
        refine aw_aload_n dX4_read_72 0 rfl rfl ?_
        refine aw_getr fl_X4_11 (by decide) fg_X4_0 hb0 er8 rfl dX4_read_73 ?_
        refine aw_iload dX4_read_76 3 rfl ?_
        refine aw_aaldq kr8 er9 dX4_read_78 ?_
        obtain ⟨r17, er17, hF⟩ := qbind hF
        have kr17 : qok R r17 9 := hW.get kr9 er17 rfl
        refine aw_getr fl_X4_86 (by decide) fg_X5_3 kr9 er17 rfl dX4_read_79 ?_
        refine aw_iload dX4_read_82 4 rfl ?_
        obtain ⟨x18, ex18, hF⟩ := qbind hF
        refine aw_ialdq kr17 ex18 dX4_read_84 ?_
        refine aw_goto (tgt := 101) dX4_read_85 (by decide) ?_
        cases hF
        have hE := he _ rfl
        subst hE
        exact aw_iret rfl dX4_read_101 hx.1 rfl rfl
def fX4_read (N : Nat) (R : qR) (I : qI) (a0 : Nat) (p1 : Int32) (p2 : Int32) (p3 : Int32) : Option (Int32) :=
  (R.1 a0 4).bind fun r1 =>
  (R.1 r1 0).bind fun r2 =>
  (qrd I R r2 p2).bind fun x3 =>
  (fX4_firstRow R I a0 x3).bind fun y4 =>
  if p1 < y4 then
    (some (-1 : Int32))
  else
    ((fX4_lastRow R I a0 x3).bind fun y6 =>
    if p1 ≤ y6 then
      ((qloop (fun s => cX4_read_36 N R I a0 p1 p3 x3 s) N (0 : Int32)).bind fun o19 =>
      qx o19 (fun e20 =>
        some (-2 : Int32)) (fun q21 => some q21))
    else
      (some (-1 : Int32)))
set_option maxHeartbeats 4000000 in
set_option maxRecDepth 100000 in
theorem sX4_read {l : Launch} {G : qG} {N : Nat} {R : qR} {I : qI} {a0 : Nat} {p1 : Int32} {p2 : Int32} {p3 : Int32} {rv : Int32} (hW : qWT R) (ha0 : qok R a0 4) (hF : fX4_read N R I a0 p1 p2 p3 = some rv) : qMt l G mX4_read 2 [.ref (G.1 + a0), .int p1, .int p2, .int p3] I R (some (.int rv)) I R := by
  unfold fX4_read at hF
  refine qMt_of (by decide) (Nat.le_of_ble_eq_true rfl) ⟨Nat.le_refl _, Nat.le_refl _⟩ ?_
  show AW _ 0 [(0, .ref (G.1 + a0)), (1, .int p1), (2, .int p2), (3, .int p3)] [] I R
  refine aw_aload_n dX4_read_0 0 rfl rfl ?_
  obtain ⟨r1, er1, hF⟩ := qbind hF
  have kr1 : qok R r1 0 := hW.get ha0 er1 rfl
  refine aw_getr fl_X4_34 (by decide) fg_X4_4 ha0 er1 rfl dX4_read_1 ?_
  obtain ⟨r2, er2, hF⟩ := qbind hF
  have kr2 : qok R r2 9 := hW.get kr1 er2 rfl
  refine aw_getr fl_X4_73 (by decide) fg_X0_0 kr1 er2 rfl dX4_read_4 ?_
  refine aw_iload_n dX4_read_7 2 rfl rfl ?_
  obtain ⟨x3, ex3, hF⟩ := qbind hF
  refine aw_ialdq kr2 ex3 dX4_read_8 ?_
  refine aw_istore (lv' := [(4, .int x3), (0, .ref (G.1 + a0)), (1, .int p1), (2, .int p2), (3, .int p3)]) dX4_read_9 (Nat.le_of_ble_eq_true rfl) rfl ?_
  refine aw_iload_n dX4_read_11 2 rfl rfl ?_
  refine aw_aload_n dX4_read_12 1 rfl rfl ?_
  refine aw_iload dX4_read_13 0 rfl ?_
  obtain ⟨y4, ey4, hF⟩ := qbind hF
  refine aw_callVi (As := [.int x3]) (sX4_firstRow hW ha0 ey4) cl_X4_76 rfl (qroomL (by decide) (by decide)) rfl ha0 (Nat.le_of_ble_eq_true rfl) dX4_read_15 rfl ?_
  refine aw_icmp_lt (tgt := 31) dX4_read_18 (by decide) (fun c5 => ?_) (fun c5 => ?_)
  · rw [if_pos c5] at hF
    refine aw_iconst (v := (-1 : Int32)) dX4_read_31 (by decide) ?_
    cases hF
    exact aw_iret rfl dX4_read_32 rfl rfl rfl
  · rw [if_neg c5] at hF
    refine aw_iload_n dX4_read_21 2 rfl rfl ?_
    refine aw_aload_n dX4_read_22 1 rfl rfl ?_
    refine aw_iload dX4_read_23 0 rfl ?_
    obtain ⟨y6, ey6, hF⟩ := qbind hF
    refine aw_callVi (As := [.int x3]) (sX4_lastRow hW ha0 ey6) cl_X4_80 rfl (qroomL (by decide) (by decide)) rfl ha0 (Nat.le_of_ble_eq_true rfl) dX4_read_25 rfl ?_
    refine aw_icmp_le (tgt := 33) dX4_read_28 (by decide) (fun c7 => ?_) (fun c7 => ?_)
    · rw [if_pos c7] at hF
      refine aw_iconst (v := (0 : Int32)) dX4_read_33 (by decide) ?_
      refine aw_istore (lv' := [(5, .int (0 : Int32)), (4, .int x3), (0, .ref (G.1 + a0)), (1, .int p1), (2, .int p2), (3, .int p3)]) dX4_read_34 (Nat.le_of_ble_eq_true rfl) rfl ?_
      obtain ⟨o19, eo19, hF⟩ := qbind hF
      refine aw_sub [2, 3, 5, 1, 0] rfl (tX4_read_36 hW ha0 (o := o19) ?_ N (0 : Int32) eo19)
      cases o19 with
      | inl e20 =>
        replace hF := qxl hF
        show AW _ 108 [] [] I R
        refine aw_bipush (v := (-2 : Int32)) dX4_read_108 (by decide) ?_
        cases hF
        exact aw_iret rfl dX4_read_110 rfl rfl rfl
      | inr q21 =>
        replace hF := qxr hF
        cases hF
        exact ⟨rfl, trivial⟩
    · rw [if_neg c7] at hF
      refine aw_iconst (v := (-1 : Int32)) dX4_read_31 (by decide) ?_
      cases hF
      exact aw_iret rfl dX4_read_32 rfl rfl rfl
def fX4_countBreaches (R : qR) (I : qI) (a0 : Nat) : Option (Int32) :=
  (R.1 a0 4).bind fun r1 =>
  some (I r1 1)
set_option maxHeartbeats 4000000 in
set_option maxRecDepth 100000 in
theorem sX4_countBreaches {l : Launch} {G : qG} {R : qR} {I : qI} {a0 : Nat} {rv : Int32} (hW : qWT R) (ha0 : qok R a0 4) (hF : fX4_countBreaches R I a0 = some rv) : qMt l G mX4_countBreaches 1 [.ref (G.1 + a0)] I R (some (.int rv)) I R := by
  unfold fX4_countBreaches at hF
  refine qMt_of (by decide) (Nat.le_of_ble_eq_true rfl) ⟨Nat.le_refl _, Nat.le_refl _⟩ ?_
  show AW _ 0 [(0, .ref (G.1 + a0))] [] I R
  refine aw_aload_n dX4_countBreaches_0 0 rfl rfl ?_
  obtain ⟨r1, er1, hF⟩ := qbind hF
  have kr1 : qok R r1 0 := hW.get ha0 er1 rfl
  refine aw_getr fl_X4_34 (by decide) fg_X4_4 ha0 er1 rfl dX4_countBreaches_1 ?_
  refine aw_geti fl_X4_92 (by decide) fg_X0_1 kr1 rfl dX4_countBreaches_4 ?_
  cases hF
  exact aw_iret rfl dX4_countBreaches_7 rfl rfl rfl
def fX4_countKnots (R : qR) (I : qI) (a0 : Nat) : Option (Int32) :=
  (R.1 a0 4).bind fun r1 =>
  some (I r1 2)
set_option maxHeartbeats 4000000 in
set_option maxRecDepth 100000 in
theorem sX4_countKnots {l : Launch} {G : qG} {R : qR} {I : qI} {a0 : Nat} {rv : Int32} (hW : qWT R) (ha0 : qok R a0 4) (hF : fX4_countKnots R I a0 = some rv) : qMt l G mX4_countKnots 1 [.ref (G.1 + a0)] I R (some (.int rv)) I R := by
  unfold fX4_countKnots at hF
  refine qMt_of (by decide) (Nat.le_of_ble_eq_true rfl) ⟨Nat.le_refl _, Nat.le_refl _⟩ ?_
  show AW _ 0 [(0, .ref (G.1 + a0))] [] I R
  refine aw_aload_n dX4_countKnots_0 0 rfl rfl ?_
  obtain ⟨r1, er1, hF⟩ := qbind hF
  have kr1 : qok R r1 0 := hW.get ha0 er1 rfl
  refine aw_getr fl_X4_34 (by decide) fg_X4_4 ha0 er1 rfl dX4_countKnots_1 ?_
  refine aw_geti fl_X4_95 (by decide) fg_X0_2 kr1 rfl dX4_countKnots_4 ?_
  cases hF
  exact aw_iret rfl dX4_countKnots_7 rfl rfl rfl
def fX4_isBreach (R : qR) (I : qI) (a0 : Nat) (p1 : Int32) (p2 : Int32) : Option (Int32) :=
  (R.1 a0 4).bind fun r1 =>
  (R.1 r1 0).bind fun r2 =>
  (qrd I R r2 p2).bind fun x3 =>
  (qrd I R r2 p1).bind fun x4 =>
  (fX0_wouldBreach R I r1 x3 x4).bind fun y5 =>
  if vp_nar .boolean y5 = y5 then some y5 else none
set_option maxHeartbeats 4000000 in
set_option maxRecDepth 100000 in
theorem sX4_isBreach {l : Launch} {G : qG} {R : qR} {I : qI} {a0 : Nat} {p1 : Int32} {p2 : Int32} {rv : Int32} (hW : qWT R) (ha0 : qok R a0 4) (hF : fX4_isBreach R I a0 p1 p2 = some rv) : qMt l G mX4_isBreach 2 [.ref (G.1 + a0), .int p1, .int p2] I R (some (.int rv)) I R := by
  unfold fX4_isBreach at hF
  refine qMt_of (by decide) (Nat.le_of_ble_eq_true rfl) ⟨Nat.le_refl _, Nat.le_refl _⟩ ?_
  show AW _ 0 [(0, .ref (G.1 + a0)), (1, .int p1), (2, .int p2)] [] I R
  refine aw_aload_n dX4_isBreach_0 0 rfl rfl ?_
  obtain ⟨r1, er1, hF⟩ := qbind hF
  have kr1 : qok R r1 0 := hW.get ha0 er1 rfl
  refine aw_getr fl_X4_34 (by decide) fg_X4_4 ha0 er1 rfl dX4_isBreach_1 ?_
  refine aw_aload_n dX4_isBreach_4 0 rfl rfl ?_
  refine aw_getr fl_X4_34 (by decide) fg_X4_4 ha0 er1 rfl dX4_isBreach_5 ?_
  obtain ⟨r2, er2, hF⟩ := qbind hF
  have kr2 : qok R r2 9 := hW.get kr1 er2 rfl
  refine aw_getr fl_X4_73 (by decide) fg_X0_0 kr1 er2 rfl dX4_isBreach_8 ?_
  refine aw_iload_n dX4_isBreach_11 2 rfl rfl ?_
  obtain ⟨x3, ex3, hF⟩ := qbind hF
  refine aw_ialdq kr2 ex3 dX4_isBreach_12 ?_
  refine aw_aload_n dX4_isBreach_13 0 rfl rfl ?_
  refine aw_getr fl_X4_34 (by decide) fg_X4_4 ha0 er1 rfl dX4_isBreach_14 ?_
  refine aw_getr fl_X4_73 (by decide) fg_X0_0 kr1 er2 rfl dX4_isBreach_17 ?_
  refine aw_iload_n dX4_isBreach_20 1 rfl rfl ?_
  obtain ⟨x4, ex4, hF⟩ := qbind hF
  refine aw_ialdq kr2 ex4 dX4_isBreach_21 ?_
  obtain ⟨y5, ey5, hF⟩ := qbind hF
  refine aw_callVi (As := [.int x3, .int x4]) (sX0_wouldBreach hW kr1 ey5) cl_X4_98 rfl (qroomL (by decide) (by decide)) rfl kr1 (Nat.le_of_ble_eq_true rfl) dX4_isBreach_22 rfl ?_
  obtain ⟨hz, hF⟩ := qite hF
  cases hF
  exact aw_zret rfl (qnar hz) dX4_isBreach_25 rfl rfl rfl
