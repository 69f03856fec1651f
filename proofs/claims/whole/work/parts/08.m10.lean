def fX6_lastBoardTo (R : qR) (I : qI) (a0 : Nat) (a1 : Nat) (p2 : Int32) : Option (Int32) :=
  (R.1 a1 5).bind fun r1 =>
  (qrd I R r1 p2).bind fun x2 =>
  if x2 ≤ 0 then
    (some (-1 : Int32))
  else
    ((R.1 a1 3).bind fun r4 =>
    (qrd I R r4 x2).bind fun x5 =>
    if x5 = (I a0 6) then
      (some (x2 - (1 : Int32)))
    else
      (some (-1 : Int32)))
set_option maxHeartbeats 4000000 in
set_option maxRecDepth 100000 in
theorem sX6_lastBoardTo {l : Launch} {G : qG} {R : qR} {I : qI} {a0 : Nat} {a1 : Nat} {p2 : Int32} {rv : Int32} (hW : qWT R) (ha0 : qok R a0 6) (ha1 : qok R a1 5) (hF : fX6_lastBoardTo R I a0 a1 p2 = some rv) : qMt l G mX6_lastBoardTo 1 [.ref (G.1 + a0), .ref (G.1 + a1), .int p2] I R (some (.int rv)) I R := by
  unfold fX6_lastBoardTo at hF
  refine qMt_of (by decide) (Nat.le_of_ble_eq_true rfl) ⟨Nat.le_refl _, Nat.le_refl _⟩ ?_
  show AW _ 0 [(0, .ref (G.1 + a0)), (1, .ref (G.1 + a1)), (2, .int p2)] [] I R
  refine aw_aload_n dX6_lastBoardTo_0 1 rfl rfl ?_
  obtain ⟨r1, er1, hF⟩ := qbind hF
  have kr1 : qok R r1 9 := hW.get ha1 er1 rfl
  refine aw_getr fl_X6_124 (by decide) fg_X5_5 ha1 er1 rfl dX6_lastBoardTo_1 ?_
  refine aw_iload_n dX6_lastBoardTo_4 2 rfl rfl ?_
  obtain ⟨x2, ex2, hF⟩ := qbind hF
  refine aw_ialdq kr1 ex2 dX6_lastBoardTo_5 ?_
  refine aw_istore_n (lv' := [(3, .int x2), (0, .ref (G.1 + a0)), (1, .ref (G.1 + a1)), (2, .int p2)]) dX6_lastBoardTo_6 rfl (Nat.le_of_ble_eq_true rfl) rfl ?_
  refine aw_iload_n dX6_lastBoardTo_7 0 rfl rfl ?_
  refine aw_if_le (tgt := 30) dX6_lastBoardTo_8 (by decide) (fun c3 => ?_) (fun c3 => ?_)
  · rw [if_pos c3] at hF
    refine aw_iconst (v := (-1 : Int32)) dX6_lastBoardTo_30 (by decide) ?_
    cases hF
    exact aw_iret rfl dX6_lastBoardTo_31 rfl rfl rfl
  · rw [if_neg c3] at hF
    refine aw_aload_n dX6_lastBoardTo_11 2 rfl rfl ?_
    obtain ⟨r4, er4, hF⟩ := qbind hF
    have kr4 : qok R r4 9 := hW.get ha1 er4 rfl
    refine aw_getr fl_X6_94 (by decide) fg_X5_3 ha1 er4 rfl dX6_lastBoardTo_12 ?_
    refine aw_iload_n dX6_lastBoardTo_15 0 rfl rfl ?_
    obtain ⟨x5, ex5, hF⟩ := qbind hF
    refine aw_ialdq kr4 ex5 dX6_lastBoardTo_16 ?_
    refine aw_aload_n dX6_lastBoardTo_17 1 rfl rfl ?_
    refine aw_geti fl_X6_56 (by decide) fg_X6_6 ha0 rfl dX6_lastBoardTo_18 ?_
    refine aw_icmp_ne (tgt := 30) dX6_lastBoardTo_21 (by decide) (fun c6 => ?_) (fun c6 => ?_)
    · rw [if_neg c6] at hF
      refine aw_iconst (v := (-1 : Int32)) dX6_lastBoardTo_30 (by decide) ?_
      cases hF
      exact aw_iret rfl dX6_lastBoardTo_31 rfl rfl rfl
    · rw [if_pos c6] at hF
      refine aw_iload_n dX6_lastBoardTo_24 0 rfl rfl ?_
      refine aw_iconst (v := (1 : Int32)) dX6_lastBoardTo_25 (by decide) ?_
      refine aw_isub dX6_lastBoardTo_26 ?_
      refine aw_goto (tgt := 31) dX6_lastBoardTo_27 (by decide) ?_
      cases hF
      exact aw_iret rfl dX6_lastBoardTo_31 rfl rfl rfl
def cX6_countLegs_3 (N : Nat) (R : qR) (b0 : Nat) (v1 : Int32) (v2 : Int32) (v3 : Int32) (v4 : Int32) (I : qI) : Option ((Int32 × qI) ⊕ (qI)) :=
  if (I b0 1) ≤ v4 then
    (some (.inr I))
  else
    ((R.1 b0 5).bind fun r2 =>
    (R.1 b0 0).bind fun r3 =>
    (qra R r3 v4).bind fun r4 =>
    (fX5_runsOn R I r4 (I b0 2)).bind fun y5 =>
    if y5 = 0 then
      ((qwr I R r2 v4 (-1 : Int32)).bind fun I7 =>
      some (.inl ((v4 + 1), I7)))
    else
      ((fX6_lastBoardTo R I b0 r4 v2).bind fun y8 =>
      (qwr I R r2 v4 y8).bind fun I9 =>
      some (.inl ((v4 + 1), I9))))
set_option maxHeartbeats 4000000 in
set_option maxRecDepth 100000 in
theorem tX6_countLegs_3 {l : Launch} {G : qG} {N : Nat} {R : qR} {As : List Value} {rv : Option Value} {I1 : qI} {b0 : Nat} {v1 : Int32} {v2 : Int32} {v3 : Int32} (hW : qWT R) (hb0 : qok R b0 6) {o : qI} (hx : AW (Zm l G mX6_countLegs 3 As R rv I1 R) 58 [(0, .ref (G.1 + b0)), (1, .int v1), (3, .int v3)] [] o R) : ∀ n s, qloop (fun s => cX6_countLegs_3 N R b0 v1 v2 v3 s.1 s.2) n s = some o → (match s with | (v4, I) => AW (Zm l G mX6_countLegs 3 As R rv I1 R) 3 [(0, .ref (G.1 + b0)), (1, .int v1), (2, .int v2), (3, .int v3), (4, .int v4)] [] I R) := by
  apply qloop_ind
  intro s x hF hc he
  obtain ⟨v4, I⟩ := s
  change cX6_countLegs_3 N R b0 v1 v2 v3 v4 I = some x at hF
  unfold cX6_countLegs_3 at hF
  show AW _ 3 [(0, .ref (G.1 + b0)), (1, .int v1), (2, .int v2), (3, .int v3), (4, .int v4)] [] I R
  refine aw_iload dX6_countLegs_3 4 rfl ?_
  refine aw_aload_n dX6_countLegs_5 0 rfl rfl ?_
  refine aw_geti fl_X6_42 (by decide) fg_X6_1 hb0 rfl dX6_countLegs_6 ?_
  refine aw_icmp_ge (tgt := 58) dX6_countLegs_9 (by decide) (fun c1 => ?_) (fun c1 => ?_)
  · rw [if_pos c1] at hF
    cases hF
    have hE := he _ rfl
    subst hE
    exact aw_sub [0, 1, 3] rfl hx
  · rw [if_neg c1] at hF
    refine aw_aload_n dX6_countLegs_12 0 rfl rfl ?_
    obtain ⟨r2, er2, hF⟩ := qbind hF
    have kr2 : qok R r2 9 := hW.get hb0 er2 rfl
    refine aw_getr fl_X6_21 (by decide) fg_X6_5 hb0 er2 rfl dX6_countLegs_13 ?_
    refine aw_iload dX6_countLegs_16 4 rfl ?_
    refine aw_aload_n dX6_countLegs_18 0 rfl rfl ?_
    obtain ⟨r3, er3, hF⟩ := qbind hF
    have kr3 : qok R r3 11 := hW.get hb0 er3 rfl
    refine aw_getr fl_X6_11 (by decide) fg_X6_0 hb0 er3 rfl dX6_countLegs_19 ?_
    refine aw_iload dX6_countLegs_22 4 rfl ?_
    obtain ⟨r4, er4, hF⟩ := qbind hF
    have kr4 : qok R r4 5 := hW.elem kr3 er4
    refine aw_aaldq kr3 er4 dX6_countLegs_24 ?_
    refine aw_aload_n dX6_countLegs_25 0 rfl rfl ?_
    refine aw_geti fl_X6_46 (by decide) fg_X6_2 hb0 rfl dX6_countLegs_26 ?_
    obtain ⟨y5, ey5, hF⟩ := qbind hF
    refine aw_callVi (As := [.int (I b0 2)]) (sX5_runsOn hW kr4 ey5) cl_X6_103 rfl (qroomL (by decide) (by decide)) rfl kr4 (Nat.le_of_ble_eq_true rfl) dX6_countLegs_29 rfl ?_
    refine aw_if_eq (tgt := 50) dX6_countLegs_32 (by decide) (fun c6 => ?_) (fun c6 => ?_)
    · rw [if_pos c6] at hF
      refine aw_iconst (v := (-1 : Int32)) dX6_countLegs_50 (by decide) ?_
      obtain ⟨I7, eI7, hF⟩ := qbind hF
      refine aw_iastq kr2 eI7 dX6_countLegs_51 ?_
      refine aw_iinc (q := 4) (v := (v4 + 1)) (lv' := [(4, .int (v4 + 1)), (0, .ref (G.1 + b0)), (1, .int v1), (2, .int v2), (3, .int v3)]) dX6_countLegs_52 rfl rfl (Nat.le_of_ble_eq_true rfl) rfl ?_
      refine aw_goto (tgt := 3) dX6_countLegs_55 (by decide) ?_
      cases hF
      exact aw_sub [1, 2, 3, 4, 0] rfl (hc ((v4 + 1), I7) rfl)
    · rw [if_neg c6] at hF
      refine aw_aload_n dX6_countLegs_35 0 rfl rfl ?_
      refine aw_aload_n dX6_countLegs_36 0 rfl rfl ?_
      refine aw_getr fl_X6_11 (by decide) fg_X6_0 hb0 er3 rfl dX6_countLegs_37 ?_
      refine aw_iload dX6_countLegs_40 4 rfl ?_
      refine aw_aaldq kr3 er4 dX6_countLegs_42 ?_
      refine aw_iload_n dX6_countLegs_43 2 rfl rfl ?_
      obtain ⟨y8, ey8, hF⟩ := qbind hF
      refine aw_callVi (As := [.ref (G.1 + r4), .int v2]) (sX6_lastBoardTo hW hb0 kr4 ey8) cl_X6_114 rfl (qroomL (by decide) (by decide)) rfl hb0 (Nat.le_of_ble_eq_true rfl) dX6_countLegs_44 rfl ?_
      refine aw_goto (tgt := 51) dX6_countLegs_47 (by decide) ?_
      obtain ⟨I9, eI9, hF⟩ := qbind hF
      refine aw_iastq kr2 eI9 dX6_countLegs_51 ?_
      refine aw_iinc (q := 4) (v := (v4 + 1)) (lv' := [(4, .int (v4 + 1)), (0, .ref (G.1 + b0)), (1, .int v1), (2, .int v2), (3, .int v3)]) dX6_countLegs_52 rfl rfl (Nat.le_of_ble_eq_true rfl) rfl ?_
      refine aw_goto (tgt := 3) dX6_countLegs_55 (by decide) ?_
      cases hF
      exact aw_sub [1, 2, 3, 4, 0] rfl (hc ((v4 + 1), I9) rfl)
def cX6_countLegs_87 (N : Nat) (R : qR) (b0 : Nat) (v1 : Int32) (v3 : Int32) (v4 : Int32) (I : qI) : Option ((Int32 × qI) ⊕ (qI)) :=
  if (I b0 1) ≤ v4 then
    (some (.inr I))
  else
    ((R.1 b0 5).bind fun r16 =>
    (R.1 b0 0).bind fun r17 =>
    (qra R r17 v4).bind fun r18 =>
    (fX5_runsOn R I r18 (I b0 2)).bind fun y19 =>
    if y19 = 0 then
      ((qwr I R r16 (((I b0 7) * (10 : Int32)) + v4) (-1 : Int32)).bind fun I21 =>
      some (.inl ((v4 + 1), I21)))
    else
      ((fX6_lastBoardBefore N R I b0 r18 ((I b0 7) - (1 : Int32))).bind fun y22 =>
      (qwr I R r16 (((I b0 7) * (10 : Int32)) + v4) y22).bind fun I23 =>
      some (.inl ((v4 + 1), I23))))
set_option maxHeartbeats 4000000 in
set_option maxRecDepth 100000 in
theorem tX6_countLegs_87 {l : Launch} {G : qG} {N : Nat} {R : qR} {As : List Value} {rv : Option Value} {I1 : qI} {b0 : Nat} {v1 : Int32} {v3 : Int32} (hW : qWT R) (hb0 : qok R b0 6) {o : qI} (hx : AW (Zm l G mX6_countLegs 3 As R rv I1 R) 155 [(0, .ref (G.1 + b0)), (1, .int v1), (3, .int v3)] [] o R) : ∀ n s, qloop (fun s => cX6_countLegs_87 N R b0 v1 v3 s.1 s.2) n s = some o → (match s with | (v4, I) => AW (Zm l G mX6_countLegs 3 As R rv I1 R) 87 [(0, .ref (G.1 + b0)), (1, .int v1), (3, .int v3), (4, .int v4)] [] I R) := by
  apply qloop_ind
  intro s x hF hc he
  obtain ⟨v4, I⟩ := s
  change cX6_countLegs_87 N R b0 v1 v3 v4 I = some x at hF
  unfold cX6_countLegs_87 at hF
  show AW _ 87 [(0, .ref (G.1 + b0)), (1, .int v1), (3, .int v3), (4, .int v4)] [] I R
  refine aw_iload dX6_countLegs_87 3 rfl ?_
  refine aw_aload_n dX6_countLegs_89 0 rfl rfl ?_
  refine aw_geti fl_X6_42 (by decide) fg_X6_1 hb0 rfl dX6_countLegs_90 ?_
  refine aw_icmp_ge (tgt := 155) dX6_countLegs_93 (by decide) (fun c15 => ?_) (fun c15 => ?_)
  · rw [if_pos c15] at hF
    cases hF
    have hE := he _ rfl
    subst hE
    exact aw_sub [0, 1, 2] rfl hx
  · rw [if_neg c15] at hF
    refine aw_aload_n dX6_countLegs_96 0 rfl rfl ?_
    obtain ⟨r16, er16, hF⟩ := qbind hF
    have kr16 : qok R r16 9 := hW.get hb0 er16 rfl
    refine aw_getr fl_X6_21 (by decide) fg_X6_5 hb0 er16 rfl dX6_countLegs_97 ?_
    refine aw_aload_n dX6_countLegs_100 0 rfl rfl ?_
    refine aw_geti fl_X6_72 (by decide) fg_X6_7 hb0 rfl dX6_countLegs_101 ?_
    refine aw_bipush (v := (10 : Int32)) dX6_countLegs_104 (by decide) ?_
    refine aw_imul dX6_countLegs_106 ?_
    refine aw_iload dX6_countLegs_107 3 rfl ?_
    refine aw_iadd dX6_countLegs_109 ?_
    refine aw_aload_n dX6_countLegs_110 0 rfl rfl ?_
    obtain ⟨r17, er17, hF⟩ := qbind hF
    have kr17 : qok R r17 11 := hW.get hb0 er17 rfl
    refine aw_getr fl_X6_11 (by decide) fg_X6_0 hb0 er17 rfl dX6_countLegs_111 ?_
    refine aw_iload dX6_countLegs_114 3 rfl ?_
    obtain ⟨r18, er18, hF⟩ := qbind hF
    have kr18 : qok R r18 5 := hW.elem kr17 er18
    refine aw_aaldq kr17 er18 dX6_countLegs_116 ?_
    refine aw_aload_n dX6_countLegs_117 0 rfl rfl ?_
    refine aw_geti fl_X6_46 (by decide) fg_X6_2 hb0 rfl dX6_countLegs_118 ?_
    obtain ⟨y19, ey19, hF⟩ := qbind hF
    refine aw_callVi (As := [.int (I b0 2)]) (sX5_runsOn hW kr18 ey19) cl_X6_103 rfl (qroomL (by decide) (by decide)) rfl kr18 (Nat.le_of_ble_eq_true rfl) dX6_countLegs_121 rfl ?_
    refine aw_if_eq (tgt := 147) dX6_countLegs_124 (by decide) (fun c20 => ?_) (fun c20 => ?_)
    · rw [if_pos c20] at hF
      refine aw_iconst (v := (-1 : Int32)) dX6_countLegs_147 (by decide) ?_
      obtain ⟨I21, eI21, hF⟩ := qbind hF
      refine aw_iastq kr16 eI21 dX6_countLegs_148 ?_
      refine aw_iinc (q := 3) (v := (v4 + 1)) (lv' := [(4, .int (v4 + 1)), (0, .ref (G.1 + b0)), (1, .int v1), (3, .int v3)]) dX6_countLegs_149 rfl rfl (Nat.le_of_ble_eq_true rfl) rfl ?_
      refine aw_goto (tgt := 87) dX6_countLegs_152 (by decide) ?_
      cases hF
      exact aw_sub [1, 2, 3, 0] rfl (hc ((v4 + 1), I21) rfl)
    · rw [if_neg c20] at hF
      refine aw_aload_n dX6_countLegs_127 0 rfl rfl ?_
      refine aw_aload_n dX6_countLegs_128 0 rfl rfl ?_
      refine aw_getr fl_X6_11 (by decide) fg_X6_0 hb0 er17 rfl dX6_countLegs_129 ?_
      refine aw_iload dX6_countLegs_132 3 rfl ?_
      refine aw_aaldq kr17 er18 dX6_countLegs_134 ?_
      refine aw_aload_n dX6_countLegs_135 0 rfl rfl ?_
      refine aw_geti fl_X6_72 (by decide) fg_X6_7 hb0 rfl dX6_countLegs_136 ?_
      refine aw_iconst (v := (1 : Int32)) dX6_countLegs_139 (by decide) ?_
      refine aw_isub dX6_countLegs_140 ?_
      obtain ⟨y22, ey22, hF⟩ := qbind hF
      refine aw_callVi (As := [.ref (G.1 + r18), .int ((I b0 7) - (1 : Int32))]) (sX6_lastBoardBefore hW hb0 kr18 ey22) cl_X6_121 rfl (qroomL (by decide) (by decide)) rfl hb0 (Nat.le_of_ble_eq_true rfl) dX6_countLegs_141 rfl ?_
      refine aw_goto (tgt := 148) dX6_countLegs_144 (by decide) ?_
      obtain ⟨I23, eI23, hF⟩ := qbind hF
      refine aw_iastq kr16 eI23 dX6_countLegs_148 ?_
      refine aw_iinc (q := 3) (v := (v4 + 1)) (lv' := [(4, .int (v4 + 1)), (0, .ref (G.1 + b0)), (1, .int v1), (3, .int v3)]) dX6_countLegs_149 rfl rfl (Nat.le_of_ble_eq_true rfl) rfl ?_
      refine aw_goto (tgt := 87) dX6_countLegs_152 (by decide) ?_
      cases hF
      exact aw_sub [1, 2, 3, 0] rfl (hc ((v4 + 1), I23) rfl)
def cX6_countLegs_63 (N : Nat) (R : qR) (b0 : Nat) (v1 : Int32) (v3 : Int32)  (I : qI) : Option ((qI) ⊕ (qI)) :=
  if (I b0 1) ≤ (I b0 7) then
    (some (.inr I))
  else
    ((fX6_firstTrain N R I b0 v1 v3).bind fun y13 =>
    if y13 = (-1 : Int32) then
      ((qloop (fun s => cX6_countLegs_87 N R b0 v1 v3 s.1 s.2) N ((0 : Int32), I)).bind fun o24 =>
      qlet (qup o24 b0 7 ((o24 b0 7) + (1 : Int32))) fun I25 =>
      some (.inl I25))
    else
      (some (.inr I)))
set_option maxHeartbeats 4000000 in
set_option maxRecDepth 100000 in
theorem tX6_countLegs_63 {l : Launch} {G : qG} {N : Nat} {R : qR} {As : List Value} {rv : Option Value} {I1 : qI} {b0 : Nat} {v1 : Int32} {v3 : Int32} (hW : qWT R) (hb0 : qok R b0 6) {o : qI} (hx : AW (Zm l G mX6_countLegs 3 As R rv I1 R) 168 [] [] o R) : ∀ n s, qloop (fun s => cX6_countLegs_63 N R b0 v1 v3 s) n s = some o → AW (Zm l G mX6_countLegs 3 As R rv I1 R) 63 [(0, .ref (G.1 + b0)), (1, .int v1), (3, .int v3)] [] s R := by
  apply qloop_ind
  intro s x hF hc he
  obtain ⟨I, rfl⟩ : ∃ z, z = s := ⟨s, rfl⟩
  change cX6_countLegs_63 N R b0 v1 v3 I = some x at hF
  unfold cX6_countLegs_63 at hF
  show AW _ 63 [(0, .ref (G.1 + b0)), (1, .int v1), (3, .int v3)] [] I R
  refine aw_aload_n dX6_countLegs_63 0 rfl rfl ?_
  refine aw_geti fl_X6_72 (by decide) fg_X6_7 hb0 rfl dX6_countLegs_64 ?_
  refine aw_aload_n dX6_countLegs_67 0 rfl rfl ?_
  refine aw_geti fl_X6_42 (by decide) fg_X6_1 hb0 rfl dX6_countLegs_68 ?_
  refine aw_icmp_ge (tgt := 168) dX6_countLegs_71 (by decide) (fun c12 => ?_) (fun c12 => ?_)
  · rw [if_pos c12] at hF
    cases hF
    have hE := he _ rfl
    subst hE
    exact aw_sub [] rfl hx
  · rw [if_neg c12] at hF
    refine aw_aload_n dX6_countLegs_74 0 rfl rfl ?_
    refine aw_iload_n dX6_countLegs_75 1 rfl rfl ?_
    refine aw_iload_n dX6_countLegs_76 2 rfl rfl ?_
    obtain ⟨y13, ey13, hF⟩ := qbind hF
    refine aw_callVi (As := [.int v1, .int v3]) (sX6_firstTrain hW hb0 ey13) cl_X6_118 rfl (qroomL (by decide) (by decide)) rfl hb0 (Nat.le_of_ble_eq_true rfl) dX6_countLegs_77 rfl ?_
    refine aw_iconst (v := (-1 : Int32)) dX6_countLegs_80 (by decide) ?_
    refine aw_icmp_ne (tgt := 168) dX6_countLegs_81 (by decide) (fun c14 => ?_) (fun c14 => ?_)
    · rw [if_neg c14] at hF
      cases hF
      have hE := he _ rfl
      subst hE
      exact aw_sub [] rfl hx
    · rw [if_pos c14] at hF
      refine aw_iconst (v := (0 : Int32)) dX6_countLegs_84 (by decide) ?_
      refine aw_istore (lv' := [(4, .int (0 : Int32)), (0, .ref (G.1 + b0)), (1, .int v1), (3, .int v3)]) dX6_countLegs_85 (Nat.le_of_ble_eq_true rfl) rfl ?_
      obtain ⟨o24, eo24, hF⟩ := qbind hF
      refine aw_sub [1, 2, 3, 0] rfl (tX6_countLegs_87 hW hb0 (o := o24) ?_ N ((0 : Int32), I) eo24)
      show AW _ 155 [(0, .ref (G.1 + b0)), (1, .int v1), (3, .int v3)] [] o24 R
      refine aw_aload_n dX6_countLegs_155 0 rfl rfl ?_
      refine aw_dup dX6_countLegs_156 rfl ?_
      refine aw_geti fl_X6_72 (by decide) fg_X6_7 hb0 rfl dX6_countLegs_157 ?_
      refine aw_iconst (v := (1 : Int32)) dX6_countLegs_160 (by decide) ?_
      refine aw_iadd dX6_countLegs_161 ?_
      obtain ⟨I25, eI25, hF⟩ := qletE hF
      refine aw_putiq fl_X6_72 (by decide) fs_X6_7 fn_X6_7 ft_X6_7 hb0 eI25 rfl dX6_countLegs_162 ?_
      refine aw_goto (tgt := 63) dX6_countLegs_165 (by decide) ?_
      cases hF
      exact aw_sub [0, 1, 2] rfl (hc I25 rfl)
def fX6_countLegs (N : Nat) (R : qR) (I : qI) (a0 : Nat) (p1 : Int32) (p2 : Int32) (p3 : Int32) : Option (qI) :=
  (qloop (fun s => cX6_countLegs_3 N R a0 p1 p2 p3 s.1 s.2) N ((0 : Int32), I)).bind fun o10 =>
  qlet (qup o10 a0 7 (1 : Int32)) fun I11 =>
  (qloop (fun s => cX6_countLegs_63 N R a0 p1 p3 s) N I11).bind fun o26 =>
  some o26
set_option maxHeartbeats 4000000 in
set_option maxRecDepth 100000 in
theorem sX6_countLegs {l : Launch} {G : qG} {N : Nat} {R : qR} {I : qI} {a0 : Nat} {p1 : Int32} {p2 : Int32} {p3 : Int32} {rI : qI} (hW : qWT R) (ha0 : qok R a0 6) (hF : fX6_countLegs N R I a0 p1 p2 p3 = some rI) : qMt l G mX6_countLegs 3 [.ref (G.1 + a0), .int p1, .int p2, .int p3] I R (none) rI R := by
  unfold fX6_countLegs at hF
  refine qMt_of (by decide) (Nat.le_of_ble_eq_true rfl) ⟨Nat.le_refl _, Nat.le_refl _⟩ ?_
  show AW _ 0 [(0, .ref (G.1 + a0)), (1, .int p1), (2, .int p2), (3, .int p3)] [] I R
  refine aw_iconst (v := (0 : Int32)) dX6_countLegs_0 (by decide) ?_
  refine aw_istore (lv' := [(4, .int (0 : Int32)), (0, .ref (G.1 + a0)), (1, .int p1), (2, .int p2), (3, .int p3)]) dX6_countLegs_1 (Nat.le_of_ble_eq_true rfl) rfl ?_
  obtain ⟨o10, eo10, hF⟩ := qbind hF
  refine aw_sub [1, 2, 3, 4, 0] rfl (tX6_countLegs_3 hW ha0 (o := o10) ?_ N ((0 : Int32), I) eo10)
  show AW _ 58 [(0, .ref (G.1 + a0)), (1, .int p1), (3, .int p3)] [] o10 R
  refine aw_aload_n dX6_countLegs_58 0 rfl rfl ?_
  refine aw_iconst (v := (1 : Int32)) dX6_countLegs_59 (by decide) ?_
  obtain ⟨I11, eI11, hF⟩ := qletE hF
  refine aw_putiq fl_X6_72 (by decide) fs_X6_7 fn_X6_7 ft_X6_7 ha0 eI11 rfl dX6_countLegs_60 ?_
  obtain ⟨o26, eo26, hF⟩ := qbind hF
  refine aw_sub [0, 1, 2] rfl (tX6_countLegs_63 hW ha0 (o := o26) ?_ N I11 eo26)
  show AW _ 168 [] [] o26 R
  cases hF
  exact aw_vret rfl dX6_countLegs_168 rfl rfl rfl
def cX6_ride_7 (N : Nat) (R : qR) (b0 : Nat) (b1 : Nat) (v2 : Int32) (v3 : Int32) (v4 : Int32) (I : qI) : Option ((Int32 × Int32 × Int32 × qI) ⊕ (Int32 × qI)) :=
  if (I b1 1) ≤ v4 then
    (some (.inr (v3, I)))
  else
    ((R.1 b1 2).bind fun r2 =>
    (qrd I R r2 v4).bind fun x3 =>
    if v2 = 0 then
      ((R.1 b0 4).bind fun r5 =>
      (qrd I R r5 x3).bind fun x6 =>
      (R.1 b1 4).bind fun r7 =>
      (qrd I R r7 v4).bind fun x8 =>
      if x8 < (x6 + (I b0 3)) then
        (some (.inl ((v2 ||| (0 : Int32)), v3, (v4 + 1), I)))
      else
        (some (.inl ((v2 ||| (1 : Int32)), v3, (v4 + 1), I))))
    else
      ((R.1 b1 3).bind fun r10 =>
      (qrd I R r10 v4).bind fun x11 =>
      (R.1 b0 4).bind fun r12 =>
      (qrd I R r12 x3).bind fun x13 =>
      if x13 ≤ x11 then
        ((R.1 b1 4).bind fun r15 =>
        (qrd I R r15 v4).bind fun x16 =>
        if x16 < (x13 + (I b0 3)) then
          (some (.inl ((v2 ||| (0 : Int32)), v3, (v4 + 1), I)))
        else
          (some (.inl ((v2 ||| (1 : Int32)), v3, (v4 + 1), I))))
      else
        ((qwr I R r12 x3 x11).bind fun I18 =>
        (qrd I18 R r12 x3).bind fun x19 =>
        (R.1 b1 4).bind fun r20 =>
        (qrd I18 R r20 v4).bind fun x21 =>
        if x21 < (x19 + (I18 b0 3)) then
          (some (.inl ((v2 ||| (0 : Int32)), (1 : Int32), (v4 + 1), I18)))
        else
          (some (.inl ((v2 ||| (1 : Int32)), (1 : Int32), (v4 + 1), I18))))))
set_option maxHeartbeats 4000000 in
set_option maxRecDepth 100000 in
theorem tX6_ride_7 {l : Launch} {G : qG} {N : Nat} {R : qR} {As : List Value} {rv : Option Value} {I1 : qI} {b0 : Nat} {b1 : Nat} (hW : qWT R) (hb0 : qok R b0 6) (hb1 : qok R b1 5) {o : Int32 × qI} (hx : match o with | (z0, z1) => AW (Zm l G mX6_ride 1 As R rv I1 R) 98 [(3, .int z0)] [] z1 R) : ∀ n s, qloop (fun s => cX6_ride_7 N R b0 b1 s.1 s.2.1 s.2.2.1 s.2.2.2) n s = some o → (match s with | (v2, v3, v4, I) => AW (Zm l G mX6_ride 1 As R rv I1 R) 7 [(0, .ref (G.1 + b0)), (1, .ref (G.1 + b1)), (2, .int v2), (3, .int v3), (4, .int v4)] [] I R) := by
  apply qloop_ind
  intro s x hF hc he
  obtain ⟨v2, v3, v4, I⟩ := s
  change cX6_ride_7 N R b0 b1 v2 v3 v4 I = some x at hF
  unfold cX6_ride_7 at hF
  show AW _ 7 [(0, .ref (G.1 + b0)), (1, .ref (G.1 + b1)), (2, .int v2), (3, .int v3), (4, .int v4)] [] I R
  refine aw_iload dX6_ride_7 4 rfl ?_
  refine aw_aload_n dX6_ride_9 1 rfl rfl ?_
  refine aw_geti fl_X6_111 (by decide) fg_X5_1 hb1 rfl dX6_ride_10 ?_
  refine aw_icmp_ge (tgt := 98) dX6_ride_13 (by decide) (fun c1 => ?_) (fun c1 => ?_)
  · rw [if_pos c1] at hF
    cases hF
    have hE := he _ rfl
    subst hE
    exact aw_sub [3] rfl hx
  · rw [if_neg c1] at hF
    refine aw_aload_n dX6_ride_16 1 rfl rfl ?_
    obtain ⟨r2, er2, hF⟩ := qbind hF
    have kr2 : qok R r2 9 := hW.get hb1 er2 rfl
    refine aw_getr fl_X6_88 (by decide) fg_X5_2 hb1 er2 rfl dX6_ride_17 ?_
    refine aw_iload dX6_ride_20 4 rfl ?_
    obtain ⟨x3, ex3, hF⟩ := qbind hF
    refine aw_ialdq kr2 ex3 dX6_ride_22 ?_
    refine aw_istore (lv' := [(5, .int x3), (0, .ref (G.1 + b0)), (1, .ref (G.1 + b1)), (2, .int v2), (3, .int v3), (4, .int v4)]) dX6_ride_23 (Nat.le_of_ble_eq_true rfl) rfl ?_
    refine aw_iload_n dX6_ride_25 3 rfl rfl ?_
    refine aw_if_eq (tgt := 62) dX6_ride_26 (by decide) (fun c4 => ?_) (fun c4 => ?_)
    · rw [if_pos c4] at hF
      refine aw_iload_n dX6_ride_62 3 rfl rfl ?_
      refine aw_aload_n dX6_ride_63 1 rfl rfl ?_
      obtain ⟨r5, er5, hF⟩ := qbind hF
      have kr5 : qok R r5 9 := hW.get hb0 er5 rfl
      refine aw_getr fl_X6_17 (by decide) fg_X6_4 hb0 er5 rfl dX6_ride_64 ?_
      refine aw_iload dX6_ride_67 0 rfl ?_
      obtain ⟨x6, ex6, hF⟩ := qbind hF
      refine aw_ialdq kr5 ex6 dX6_ride_69 ?_
      refine aw_aload_n dX6_ride_70 1 rfl rfl ?_
      refine aw_geti fl_X6_49 (by decide) fg_X6_3 hb0 rfl dX6_ride_71 ?_
      refine aw_iadd dX6_ride_74 ?_
      refine aw_aload_n dX6_ride_75 2 rfl rfl ?_
      obtain ⟨r7, er7, hF⟩ := qbind hF
      have kr7 : qok R r7 9 := hW.get hb1 er7 rfl
      refine aw_getr fl_X6_91 (by decide) fg_X5_4 hb1 er7 rfl dX6_ride_76 ?_
      refine aw_iload dX6_ride_79 5 rfl ?_
      obtain ⟨x8, ex8, hF⟩ := qbind hF
      refine aw_ialdq kr7 ex8 dX6_ride_81 ?_
      refine aw_icmp_gt (tgt := 89) dX6_ride_82 (by decide) (fun c9 => ?_) (fun c9 => ?_)
      · rw [if_pos c9] at hF
        refine aw_iconst (v := (0 : Int32)) dX6_ride_89 (by decide) ?_
        refine aw_ior dX6_ride_90 ?_
        refine aw_istore_n (lv' := [(2, .int (v2 ||| (0 : Int32))), (5, .int x3), (0, .ref (G.1 + b0)), (1, .ref (G.1 + b1)), (3, .int v3), (4, .int v4)]) dX6_ride_91 rfl (Nat.le_of_ble_eq_true rfl) rfl ?_
        refine aw_iinc (q := 5) (v := (v4 + 1)) (lv' := [(4, .int (v4 + 1)), (2, .int (v2 ||| (0 : Int32))), (5, .int x3), (0, .ref (G.1 + b0)), (1, .ref (G.1 + b1)), (3, .int v3)]) dX6_ride_92 rfl rfl (Nat.le_of_ble_eq_true rfl) rfl ?_
        refine aw_goto (tgt := 7) dX6_ride_95 (by decide) ?_
        cases hF
        exact aw_sub [3, 4, 1, 5, 0] rfl (hc ((v2 ||| (0 : Int32)), v3, (v4 + 1), I) rfl)
      · rw [if_neg c9] at hF
        refine aw_iconst (v := (1 : Int32)) dX6_ride_85 (by decide) ?_
        refine aw_goto (tgt := 90) dX6_ride_86 (by decide) ?_
        refine aw_ior dX6_ride_90 ?_
        refine aw_istore_n (lv' := [(2, .int (v2 ||| (1 : Int32))), (5, .int x3), (0, .ref (G.1 + b0)), (1, .ref (G.1 + b1)), (3, .int v3), (4, .int v4)]) dX6_ride_91 rfl (Nat.le_of_ble_eq_true rfl) rfl ?_
        refine aw_iinc (q := 5) (v := (v4 + 1)) (lv' := [(4, .int (v4 + 1)), (2, .int (v2 ||| (1 : Int32))), (5, .int x3), (0, .ref (G.1 + b0)), (1, .ref (G.1 + b1)), (3, .int v3)]) dX6_ride_92 rfl rfl (Nat.le_of_ble_eq_true rfl) rfl ?_
        refine aw_goto (tgt := 7) dX6_ride_95 (by decide) ?_
        cases hF
        exact aw_sub [3, 4, 1, 5, 0] rfl (hc ((v2 ||| (1 : Int32)), v3, (v4 + 1), I) rfl)
    · rw [if_neg c4] at hF
      refine aw_aload_n dX6_ride_29 2 rfl rfl ?_
      obtain ⟨r10, er10, hF⟩ := qbind hF
      have kr10 : qok R r10 9 := hW.get hb1 er10 rfl
      refine aw_getr fl_X6_94 (by decide) fg_X5_3 hb1 er10 rfl dX6_ride_30 ?_
      refine aw_iload dX6_ride_33 5 rfl ?_
      obtain ⟨x11, ex11, hF⟩ := qbind hF
      refine aw_ialdq kr10 ex11 dX6_ride_35 ?_
      refine aw_aload_n dX6_ride_36 1 rfl rfl ?_
      obtain ⟨r12, er12, hF⟩ := qbind hF
      have kr12 : qok R r12 9 := hW.get hb0 er12 rfl
      refine aw_getr fl_X6_17 (by decide) fg_X6_4 hb0 er12 rfl dX6_ride_37 ?_
      refine aw_iload dX6_ride_40 0 rfl ?_
      obtain ⟨x13, ex13, hF⟩ := qbind hF
      refine aw_ialdq kr12 ex13 dX6_ride_42 ?_
      refine aw_icmp_ge (tgt := 62) dX6_ride_43 (by decide) (fun c14 => ?_) (fun c14 => ?_)
      · rw [if_pos c14] at hF
        refine aw_iload_n dX6_ride_62 3 rfl rfl ?_
        refine aw_aload_n dX6_ride_63 1 rfl rfl ?_
        refine aw_getr fl_X6_17 (by decide) fg_X6_4 hb0 er12 rfl dX6_ride_64 ?_
        refine aw_iload dX6_ride_67 0 rfl ?_
        refine aw_ialdq kr12 ex13 dX6_ride_69 ?_
        refine aw_aload_n dX6_ride_70 1 rfl rfl ?_
        refine aw_geti fl_X6_49 (by decide) fg_X6_3 hb0 rfl dX6_ride_71 ?_
        refine aw_iadd dX6_ride_74 ?_
        refine aw_aload_n dX6_ride_75 2 rfl rfl ?_
        obtain ⟨r15, er15, hF⟩ := qbind hF
        have kr15 : qok R r15 9 := hW.get hb1 er15 rfl
        refine aw_getr fl_X6_91 (by decide) fg_X5_4 hb1 er15 rfl dX6_ride_76 ?_
        refine aw_iload dX6_ride_79 5 rfl ?_
        obtain ⟨x16, ex16, hF⟩ := qbind hF
        refine aw_ialdq kr15 ex16 dX6_ride_81 ?_
        refine aw_icmp_gt (tgt := 89) dX6_ride_82 (by decide) (fun c17 => ?_) (fun c17 => ?_)
        · rw [if_pos c17] at hF
          refine aw_iconst (v := (0 : Int32)) dX6_ride_89 (by decide) ?_
          refine aw_ior dX6_ride_90 ?_
          refine aw_istore_n (lv' := [(2, .int (v2 ||| (0 : Int32))), (5, .int x3), (0, .ref (G.1 + b0)), (1, .ref (G.1 + b1)), (3, .int v3), (4, .int v4)]) dX6_ride_91 rfl (Nat.le_of_ble_eq_true rfl) rfl ?_
          refine aw_iinc (q := 5) (v := (v4 + 1)) (lv' := [(4, .int (v4 + 1)), (2, .int (v2 ||| (0 : Int32))), (5, .int x3), (0, .ref (G.1 + b0)), (1, .ref (G.1 + b1)), (3, .int v3)]) dX6_ride_92 rfl rfl (Nat.le_of_ble_eq_true rfl) rfl ?_
          refine aw_goto (tgt := 7) dX6_ride_95 (by decide) ?_
          cases hF
          exact aw_sub [3, 4, 1, 5, 0] rfl (hc ((v2 ||| (0 : Int32)), v3, (v4 + 1), I) rfl)
        · rw [if_neg c17] at hF
          refine aw_iconst (v := (1 : Int32)) dX6_ride_85 (by decide) ?_
          refine aw_goto (tgt := 90) dX6_ride_86 (by decide) ?_
          refine aw_ior dX6_ride_90 ?_
          refine aw_istore_n (lv' := [(2, .int (v2 ||| (1 : Int32))), (5, .int x3), (0, .ref (G.1 + b0)), (1, .ref (G.1 + b1)), (3, .int v3), (4, .int v4)]) dX6_ride_91 rfl (Nat.le_of_ble_eq_true rfl) rfl ?_
          refine aw_iinc (q := 5) (v := (v4 + 1)) (lv' := [(4, .int (v4 + 1)), (2, .int (v2 ||| (1 : Int32))), (5, .int x3), (0, .ref (G.1 + b0)), (1, .ref (G.1 + b1)), (3, .int v3)]) dX6_ride_92 rfl rfl (Nat.le_of_ble_eq_true rfl) rfl ?_
          refine aw_goto (tgt := 7) dX6_ride_95 (by decide) ?_
          cases hF
          exact aw_sub [3, 4, 1, 5, 0] rfl (hc ((v2 ||| (1 : Int32)), v3, (v4 + 1), I) rfl)
      · rw [if_neg c14] at hF
        refine aw_aload_n dX6_ride_46 1 rfl rfl ?_
        refine aw_getr fl_X6_17 (by decide) fg_X6_4 hb0 er12 rfl dX6_ride_47 ?_
        refine aw_iload dX6_ride_50 0 rfl ?_
        refine aw_aload_n dX6_ride_52 2 rfl rfl ?_
        refine aw_getr fl_X6_94 (by decide) fg_X5_3 hb1 er10 rfl dX6_ride_53 ?_
        refine aw_iload dX6_ride_56 5 rfl ?_
        refine aw_ialdq kr10 ex11 dX6_ride_58 ?_
        obtain ⟨I18, eI18, hF⟩ := qbind hF
        refine aw_iastq kr12 eI18 dX6_ride_59 ?_
        refine aw_iconst (v := (1 : Int32)) dX6_ride_60 (by decide) ?_
        refine aw_istore_n (lv' := [(3, .int (1 : Int32)), (5, .int x3), (0, .ref (G.1 + b0)), (1, .ref (G.1 + b1)), (2, .int v2), (4, .int v4)]) dX6_ride_61 rfl (Nat.le_of_ble_eq_true rfl) rfl ?_
        refine aw_iload_n dX6_ride_62 4 rfl rfl ?_
        refine aw_aload_n dX6_ride_63 2 rfl rfl ?_
        refine aw_getr fl_X6_17 (by decide) fg_X6_4 hb0 er12 rfl dX6_ride_64 ?_
        refine aw_iload dX6_ride_67 1 rfl ?_
        obtain ⟨x19, ex19, hF⟩ := qbind hF
        refine aw_ialdq kr12 ex19 dX6_ride_69 ?_
        refine aw_aload_n dX6_ride_70 2 rfl rfl ?_
        refine aw_geti fl_X6_49 (by decide) fg_X6_3 hb0 rfl dX6_ride_71 ?_
        refine aw_iadd dX6_ride_74 ?_
        refine aw_aload_n dX6_ride_75 3 rfl rfl ?_
        obtain ⟨r20, er20, hF⟩ := qbind hF
        have kr20 : qok R r20 9 := hW.get hb1 er20 rfl
        refine aw_getr fl_X6_91 (by decide) fg_X5_4 hb1 er20 rfl dX6_ride_76 ?_
        refine aw_iload dX6_ride_79 5 rfl ?_
        obtain ⟨x21, ex21, hF⟩ := qbind hF
        refine aw_ialdq kr20 ex21 dX6_ride_81 ?_
        refine aw_icmp_gt (tgt := 89) dX6_ride_82 (by decide) (fun c22 => ?_) (fun c22 => ?_)
        · rw [if_pos c22] at hF
          refine aw_iconst (v := (0 : Int32)) dX6_ride_89 (by decide) ?_
          refine aw_ior dX6_ride_90 ?_
          refine aw_istore_n (lv' := [(2, .int (v2 ||| (0 : Int32))), (3, .int (1 : Int32)), (5, .int x3), (0, .ref (G.1 + b0)), (1, .ref (G.1 + b1)), (4, .int v4)]) dX6_ride_91 rfl (Nat.le_of_ble_eq_true rfl) rfl ?_
          refine aw_iinc (q := 5) (v := (v4 + 1)) (lv' := [(4, .int (v4 + 1)), (2, .int (v2 ||| (0 : Int32))), (3, .int (1 : Int32)), (5, .int x3), (0, .ref (G.1 + b0)), (1, .ref (G.1 + b1))]) dX6_ride_92 rfl rfl (Nat.le_of_ble_eq_true rfl) rfl ?_
          refine aw_goto (tgt := 7) dX6_ride_95 (by decide) ?_
          cases hF
          exact aw_sub [4, 5, 1, 2, 0] rfl (hc ((v2 ||| (0 : Int32)), (1 : Int32), (v4 + 1), I18) rfl)
        · rw [if_neg c22] at hF
          refine aw_iconst (v := (1 : Int32)) dX6_ride_85 (by decide) ?_
          refine aw_goto (tgt := 90) dX6_ride_86 (by decide) ?_
          refine aw_ior dX6_ride_90 ?_
          refine aw_istore_n (lv' := [(2, .int (v2 ||| (1 : Int32))), (3, .int (1 : Int32)), (5, .int x3), (0, .ref (G.1 + b0)), (1, .ref (G.1 + b1)), (4, .int v4)]) dX6_ride_91 rfl (Nat.le_of_ble_eq_true rfl) rfl ?_
          refine aw_iinc (q := 5) (v := (v4 + 1)) (lv' := [(4, .int (v4 + 1)), (2, .int (v2 ||| (1 : Int32))), (3, .int (1 : Int32)), (5, .int x3), (0, .ref (G.1 + b0)), (1, .ref (G.1 + b1))]) dX6_ride_92 rfl rfl (Nat.le_of_ble_eq_true rfl) rfl ?_
          refine aw_goto (tgt := 7) dX6_ride_95 (by decide) ?_
          cases hF
          exact aw_sub [4, 5, 1, 2, 0] rfl (hc ((v2 ||| (1 : Int32)), (1 : Int32), (v4 + 1), I18) rfl)
def fX6_ride (N : Nat) (R : qR) (I : qI) (a0 : Nat) (a1 : Nat) : Option (Int32 × qI) :=
  (qloop (fun s => cX6_ride_7 N R a0 a1 s.1 s.2.1 s.2.2.1 s.2.2.2) N ((0 : Int32), (0 : Int32), (0 : Int32), I)).bind fun o23 =>
  if vp_nar .boolean o23.1 = o23.1 then some (o23.1, o23.2) else none
set_option maxHeartbeats 4000000 in
set_option maxRecDepth 100000 in
theorem sX6_ride {l : Launch} {G : qG} {N : Nat} {R : qR} {I : qI} {a0 : Nat} {a1 : Nat} {rv : Int32} {rI : qI} (hW : qWT R) (ha0 : qok R a0 6) (ha1 : qok R a1 5) (hF : fX6_ride N R I a0 a1 = some (rv, rI)) : qMt l G mX6_ride 1 [.ref (G.1 + a0), .ref (G.1 + a1)] I R (some (.int rv)) rI R := by
  unfold fX6_ride at hF
  refine qMt_of (by decide) (Nat.le_of_ble_eq_true rfl) ⟨Nat.le_refl _, Nat.le_refl _⟩ ?_
  show AW _ 0 [(0, .ref (G.1 + a0)), (1, .ref (G.1 + a1))] [] I R
  refine aw_iconst (v := (0 : Int32)) dX6_ride_0 (by decide) ?_
  refine aw_istore_n (lv' := [(2, .int (0 : Int32)), (0, .ref (G.1 + a0)), (1, .ref (G.1 + a1))]) dX6_ride_1 rfl (Nat.le_of_ble_eq_true rfl) rfl ?_
  refine aw_iconst (v := (0 : Int32)) dX6_ride_2 (by decide) ?_
  refine aw_istore_n (lv' := [(3, .int (0 : Int32)), (2, .int (0 : Int32)), (0, .ref (G.1 + a0)), (1, .ref (G.1 + a1))]) dX6_ride_3 rfl (Nat.le_of_ble_eq_true rfl) rfl ?_
  refine aw_iconst (v := (0 : Int32)) dX6_ride_4 (by decide) ?_
  refine aw_istore (lv' := [(4, .int (0 : Int32)), (3, .int (0 : Int32)), (2, .int (0 : Int32)), (0, .ref (G.1 + a0)), (1, .ref (G.1 + a1))]) dX6_ride_5 (Nat.le_of_ble_eq_true rfl) rfl ?_
  obtain ⟨o23, eo23, hF⟩ := qbind hF
  refine aw_sub [3, 4, 2, 1, 0] rfl (tX6_ride_7 hW ha0 ha1 (o := o23) ?_ N ((0 : Int32), (0 : Int32), (0 : Int32), I) eo23)
  show AW _ 98 [(3, .int o23.1)] [] o23.2 R
  refine aw_iload_n dX6_ride_98 0 rfl rfl ?_
  obtain ⟨hz, hF⟩ := qite hF
  cases hF
  exact aw_zret rfl (qnar hz) dX6_ride_99 rfl rfl rfl
