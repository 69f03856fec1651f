def fX2_pairNeedAt (R : qR) (I : qI) (a0 : Nat) (p1 : Int32) (p2 : Int32) (p3 : Int32) : Option (Int32) :=
  (R.1 a0 7).bind fun r1 =>
  (qrd I R r1 ((((p1 * (8 : Int32)) + (p2 - p2 / (8 : Int32) * (8 : Int32))) * (8 : Int32)) + (p3 - p3 / (8 : Int32) * (8 : Int32)))).bind fun x2 =>
  some x2
set_option maxHeartbeats 4000000 in
set_option maxRecDepth 100000 in
theorem sX2_pairNeedAt {l : Launch} {G : qG} {R : qR} {I : qI} {a0 : Nat} {p1 : Int32} {p2 : Int32} {p3 : Int32} {rv : Int32} (hW : qWT R) (ha0 : qok R a0 2) (hF : fX2_pairNeedAt R I a0 p1 p2 p3 = some rv) : qMt l G mX2_pairNeedAt 1 [.ref (G.1 + a0), .int p1, .int p2, .int p3] I R (some (.int rv)) I R := by
  unfold fX2_pairNeedAt at hF
  refine qMt_of (by decide) (Nat.le_of_ble_eq_true rfl) ⟨Nat.le_refl _, Nat.le_refl _⟩ ?_
  show AW _ 0 [(0, .ref (G.1 + a0)), (1, .int p1), (2, .int p2), (3, .int p3)] [] I R
  refine aw_aload_n dX2_pairNeedAt_0 0 rfl rfl ?_
  obtain ⟨r1, er1, hF⟩ := qbind hF
  have kr1 : qok R r1 9 := hW.get ha0 er1 rfl
  refine aw_getr fl_X2_21 (by decide) fg_X2_7 ha0 er1 rfl dX2_pairNeedAt_1 ?_
  refine aw_iload_n dX2_pairNeedAt_4 1 rfl rfl ?_
  refine aw_bipush (v := (8 : Int32)) dX2_pairNeedAt_5 (by decide) ?_
  refine aw_imul dX2_pairNeedAt_7 ?_
  refine aw_iload_n dX2_pairNeedAt_8 2 rfl rfl ?_
  refine aw_bipush (v := (8 : Int32)) dX2_pairNeedAt_9 (by decide) ?_
  refine aw_irem dX2_pairNeedAt_11 (by decide) ?_
  refine aw_iadd dX2_pairNeedAt_12 ?_
  refine aw_bipush (v := (8 : Int32)) dX2_pairNeedAt_13 (by decide) ?_
  refine aw_imul dX2_pairNeedAt_15 ?_
  refine aw_iload_n dX2_pairNeedAt_16 3 rfl rfl ?_
  refine aw_bipush (v := (8 : Int32)) dX2_pairNeedAt_17 (by decide) ?_
  refine aw_irem dX2_pairNeedAt_19 (by decide) ?_
  refine aw_iadd dX2_pairNeedAt_20 ?_
  obtain ⟨x2, ex2, hF⟩ := qbind hF
  refine aw_ialdq kr1 ex2 dX2_pairNeedAt_21 ?_
  cases hF
  exact aw_iret rfl dX2_pairNeedAt_22 rfl rfl rfl
def fX2_placeOf (R : qR) (I : qI) (a0 : Nat) (p1 : Int32) (p2 : Int32) : Option (Int32) :=
  some ((p2 * (8 : Int32)) + ((p1 >>> (((3 : Int32) * p2) &&& 31)) &&& (7 : Int32)))
set_option maxHeartbeats 4000000 in
set_option maxRecDepth 100000 in
theorem sX2_placeOf {l : Launch} {G : qG} {R : qR} {I : qI} {a0 : Nat} {p1 : Int32} {p2 : Int32} {rv : Int32} (hW : qWT R) (ha0 : qok R a0 2) (hF : fX2_placeOf R I a0 p1 p2 = some rv) : qMt l G mX2_placeOf 1 [.ref (G.1 + a0), .int p1, .int p2] I R (some (.int rv)) I R := by
  unfold fX2_placeOf at hF
  refine qMt_of (by decide) (Nat.le_of_ble_eq_true rfl) ⟨Nat.le_refl _, Nat.le_refl _⟩ ?_
  show AW _ 0 [(0, .ref (G.1 + a0)), (1, .int p1), (2, .int p2)] [] I R
  refine aw_iload_n dX2_placeOf_0 2 rfl rfl ?_
  refine aw_bipush (v := (8 : Int32)) dX2_placeOf_1 (by decide) ?_
  refine aw_imul dX2_placeOf_3 ?_
  refine aw_iload_n dX2_placeOf_4 1 rfl rfl ?_
  refine aw_iconst (v := (3 : Int32)) dX2_placeOf_5 (by decide) ?_
  refine aw_iload_n dX2_placeOf_6 2 rfl rfl ?_
  refine aw_imul dX2_placeOf_7 ?_
  refine aw_ishr dX2_placeOf_8 ?_
  refine aw_bipush (v := (7 : Int32)) dX2_placeOf_9 (by decide) ?_
  refine aw_iand dX2_placeOf_11 ?_
  refine aw_iadd dX2_placeOf_12 ?_
  cases hF
  exact aw_iret rfl dX2_placeOf_13 rfl rfl rfl
def cX2_leastNeed_4 (N : Nat) (R : qR) (I : qI) (b0 : Nat) (v1 : Int32) (v2 : Int32) (v3 : Int32) : Option ((Int32 × Int32) ⊕ (Int32)) :=
  if (I b0 2) ≤ v3 then
    (some (.inr v2))
  else
    ((R.1 b0 6).bind fun r2 =>
    (fX2_placeOf R I b0 v1 v3).bind fun y3 =>
    (qrd I R r2 y3).bind fun x4 =>
    some (.inl ((v2 ||| x4), (v3 + 1))))
set_option maxHeartbeats 4000000 in
set_option maxRecDepth 100000 in
theorem tX2_leastNeed_4 {l : Launch} {G : qG} {N : Nat} {R : qR} {I : qI} {As : List Value} {rv : Option Value} {b0 : Nat} {v1 : Int32} (hW : qWT R) (hb0 : qok R b0 2) {o : Int32} (hx : AW (Zm l G mX2_leastNeed 2 As R rv I R) 32 [(0, .ref (G.1 + b0)), (1, .int v1), (2, .int o)] [] I R) : ∀ n s, qloop (fun s => cX2_leastNeed_4 N R I b0 v1 s.1 s.2) n s = some o → (match s with | (v2, v3) => AW (Zm l G mX2_leastNeed 2 As R rv I R) 4 [(0, .ref (G.1 + b0)), (1, .int v1), (2, .int v2), (3, .int v3)] [] I R) := by
  apply qloop_ind
  intro s x hF hc he
  obtain ⟨v2, v3⟩ := s
  change cX2_leastNeed_4 N R I b0 v1 v2 v3 = some x at hF
  unfold cX2_leastNeed_4 at hF
  show AW _ 4 [(0, .ref (G.1 + b0)), (1, .int v1), (2, .int v2), (3, .int v3)] [] I R
  refine aw_iload_n dX2_leastNeed_4 3 rfl rfl ?_
  refine aw_aload_n dX2_leastNeed_5 0 rfl rfl ?_
  refine aw_geti fl_X2_62 (by decide) fg_X2_2 hb0 rfl dX2_leastNeed_6 ?_
  refine aw_icmp_ge (tgt := 32) dX2_leastNeed_9 (by decide) (fun c1 => ?_) (fun c1 => ?_)
  · rw [if_pos c1] at hF
    cases hF
    have hE := he _ rfl
    subst hE
    exact aw_sub [0, 1, 2] rfl hx
  · rw [if_neg c1] at hF
    refine aw_iload_n dX2_leastNeed_12 2 rfl rfl ?_
    refine aw_aload_n dX2_leastNeed_13 0 rfl rfl ?_
    obtain ⟨r2, er2, hF⟩ := qbind hF
    have kr2 : qok R r2 9 := hW.get hb0 er2 rfl
    refine aw_getr fl_X2_18 (by decide) fg_X2_6 hb0 er2 rfl dX2_leastNeed_14 ?_
    refine aw_aload_n dX2_leastNeed_17 0 rfl rfl ?_
    refine aw_iload_n dX2_leastNeed_18 1 rfl rfl ?_
    refine aw_iload_n dX2_leastNeed_19 3 rfl rfl ?_
    obtain ⟨y3, ey3, hF⟩ := qbind hF
    refine aw_callVi (As := [.int v1, .int v3]) (sX2_placeOf hW hb0 ey3) cl_X2_98 rfl (qroomL (by decide) (by decide)) rfl hb0 (Nat.le_of_ble_eq_true rfl) dX2_leastNeed_20 rfl ?_
    obtain ⟨x4, ex4, hF⟩ := qbind hF
    refine aw_ialdq kr2 ex4 dX2_leastNeed_23 ?_
    refine aw_ior dX2_leastNeed_24 ?_
    refine aw_istore_n (lv' := [(2, .int (v2 ||| x4)), (0, .ref (G.1 + b0)), (1, .int v1), (3, .int v3)]) dX2_leastNeed_25 rfl (Nat.le_of_ble_eq_true rfl) rfl ?_
    refine aw_iinc (q := 3) (v := (v3 + 1)) (lv' := [(3, .int (v3 + 1)), (2, .int (v2 ||| x4)), (0, .ref (G.1 + b0)), (1, .int v1)]) dX2_leastNeed_26 rfl rfl (Nat.le_of_ble_eq_true rfl) rfl ?_
    refine aw_goto (tgt := 4) dX2_leastNeed_29 (by decide) ?_
    cases hF
    exact aw_sub [2, 3, 1, 0] rfl (hc ((v2 ||| x4), (v3 + 1)) rfl)
def cX2_leastNeed_64 (N : Nat) (R : qR) (I : qI) (b0 : Nat) (v1 : Int32) (v2 : Int32) (v5 : Int32) (v6 : Int32) (v3 : Int32) (v4 : Int32) (v7 : Int32) : Option ((Int32 × Int32 × Int32) ⊕ (Int32 × Int32)) :=
  if v5 ≤ v7 then
    (some (.inr (v3, v4)))
  else
    ((fX2_placeOf R I b0 v1 v7).bind fun y10 =>
    (R.1 b0 6).bind fun r11 =>
    (qrd I R r11 v6).bind fun x12 =>
    (qrd I R r11 y10).bind fun x13 =>
    (fJ6_bitCount_0f7a4 R I (v2 &&& ((x12 ||| x13) ^^^ (-1 : Int32)))).bind fun y14 =>
    (fX2_pairNeedAt R I b0 v4 v6 y10).bind fun y15 =>
    some (.inl ((if v3 < (y14 + y15) then (y14 + y15) else v3), (v4 + 1), (v7 + 1))))
set_option maxHeartbeats 4000000 in
set_option maxRecDepth 100000 in
theorem tX2_leastNeed_64 {l : Launch} {G : qG} {N : Nat} {R : qR} {I : qI} {As : List Value} {rv : Option Value} {b0 : Nat} {v1 : Int32} {v2 : Int32} {v5 : Int32} {v6 : Int32} (hW : qWT R) (hb0 : qok R b0 2) {o : Int32 × Int32} (hx : match o with | (z0, z1) => AW (Zm l G mX2_leastNeed 2 As R rv I R) 131 [(0, .ref (G.1 + b0)), (1, .int v1), (2, .int v2), (3, .int z0), (4, .int z1), (5, .int v5)] [] I R) : ∀ n s, qloop (fun s => cX2_leastNeed_64 N R I b0 v1 v2 v5 v6 s.1 s.2.1 s.2.2) n s = some o → (match s with | (v3, v4, v7) => AW (Zm l G mX2_leastNeed 2 As R rv I R) 64 [(0, .ref (G.1 + b0)), (1, .int v1), (2, .int v2), (3, .int v3), (4, .int v4), (5, .int v5), (6, .int v6), (7, .int v7)] [] I R) := by
  apply qloop_ind
  intro s x hF hc he
  obtain ⟨v3, v4, v7⟩ := s
  change cX2_leastNeed_64 N R I b0 v1 v2 v5 v6 v3 v4 v7 = some x at hF
  unfold cX2_leastNeed_64 at hF
  show AW _ 64 [(0, .ref (G.1 + b0)), (1, .int v1), (2, .int v2), (3, .int v3), (4, .int v4), (5, .int v5), (6, .int v6), (7, .int v7)] [] I R
  refine aw_iload dX2_leastNeed_64 7 rfl ?_
  refine aw_iload dX2_leastNeed_66 5 rfl ?_
  refine aw_icmp_ge (tgt := 131) dX2_leastNeed_68 (by decide) (fun c9 => ?_) (fun c9 => ?_)
  · rw [if_pos c9] at hF
    cases hF
    have hE := he _ rfl
    subst hE
    exact aw_sub [0, 1, 2, 3, 4, 5] rfl hx
  · rw [if_neg c9] at hF
    refine aw_aload_n dX2_leastNeed_71 0 rfl rfl ?_
    refine aw_iload_n dX2_leastNeed_72 1 rfl rfl ?_
    refine aw_iload dX2_leastNeed_73 7 rfl ?_
    obtain ⟨y10, ey10, hF⟩ := qbind hF
    refine aw_callVi (As := [.int v1, .int v7]) (sX2_placeOf hW hb0 ey10) cl_X2_98 rfl (qroomL (by decide) (by decide)) rfl hb0 (Nat.le_of_ble_eq_true rfl) dX2_leastNeed_75 rfl ?_
    refine aw_istore (lv' := [(8, .int y10), (0, .ref (G.1 + b0)), (1, .int v1), (2, .int v2), (3, .int v3), (4, .int v4), (5, .int v5), (6, .int v6), (7, .int v7)]) dX2_leastNeed_78 (Nat.le_of_ble_eq_true rfl) rfl ?_
    refine aw_iload_n dX2_leastNeed_80 3 rfl rfl ?_
    refine aw_aload_n dX2_leastNeed_81 1 rfl rfl ?_
    obtain ⟨r11, er11, hF⟩ := qbind hF
    have kr11 : qok R r11 9 := hW.get hb0 er11 rfl
    refine aw_getr fl_X2_18 (by decide) fg_X2_6 hb0 er11 rfl dX2_leastNeed_82 ?_
    refine aw_iload dX2_leastNeed_85 7 rfl ?_
    obtain ⟨x12, ex12, hF⟩ := qbind hF
    refine aw_ialdq kr11 ex12 dX2_leastNeed_87 ?_
    refine aw_aload_n dX2_leastNeed_88 1 rfl rfl ?_
    refine aw_getr fl_X2_18 (by decide) fg_X2_6 hb0 er11 rfl dX2_leastNeed_89 ?_
    refine aw_iload dX2_leastNeed_92 0 rfl ?_
    obtain ⟨x13, ex13, hF⟩ := qbind hF
    refine aw_ialdq kr11 ex13 dX2_leastNeed_94 ?_
    refine aw_ior dX2_leastNeed_95 ?_
    refine aw_iconst (v := (-1 : Int32)) dX2_leastNeed_96 (by decide) ?_
    refine aw_ixor dX2_leastNeed_97 ?_
    refine aw_iand dX2_leastNeed_98 ?_
    obtain ⟨y14, ey14, hF⟩ := qbind hF
    refine aw_callSi (sJ6_bitCount_0f7a4 hW  ey14) cl_X2_101 rfl (qroomL (by decide) (by decide)) rfl (Nat.le_of_ble_eq_true rfl) dX2_leastNeed_99 rfl ?_
    refine aw_istore (lv' := [(9, .int y14), (8, .int y10), (0, .ref (G.1 + b0)), (1, .int v1), (2, .int v2), (3, .int v3), (4, .int v4), (5, .int v5), (6, .int v6), (7, .int v7)]) dX2_leastNeed_102 (Nat.le_of_ble_eq_true rfl) rfl ?_
    refine aw_iload_n dX2_leastNeed_104 5 rfl rfl ?_
    refine aw_iload dX2_leastNeed_105 0 rfl ?_
    refine aw_aload_n dX2_leastNeed_107 2 rfl rfl ?_
    refine aw_iload dX2_leastNeed_108 6 rfl ?_
    refine aw_iload dX2_leastNeed_110 8 rfl ?_
    refine aw_iload dX2_leastNeed_112 1 rfl ?_
    obtain ⟨y15, ey15, hF⟩ := qbind hF
    refine aw_callVi (As := [.int v4, .int v6, .int y10]) (sX2_pairNeedAt hW hb0 ey15) cl_X2_106 rfl (qroomL (by decide) (by decide)) rfl hb0 (Nat.le_of_ble_eq_true rfl) dX2_leastNeed_114 rfl ?_
    refine aw_iadd dX2_leastNeed_117 ?_
    refine aw_maxq cl_X2_110 rfl (Nat.le_of_ble_eq_true rfl) (by decide) dX2_leastNeed_118 ?_
    refine aw_istore_n (lv' := [(3, .int (if v3 < (y14 + y15) then (y14 + y15) else v3)), (9, .int y14), (8, .int y10), (0, .ref (G.1 + b0)), (1, .int v1), (2, .int v2), (4, .int v4), (5, .int v5), (6, .int v6), (7, .int v7)]) dX2_leastNeed_121 rfl (Nat.le_of_ble_eq_true rfl) rfl ?_
    refine aw_iinc (q := 6) (v := (v4 + 1)) (lv' := [(4, .int (v4 + 1)), (3, .int (if v3 < (y14 + y15) then (y14 + y15) else v3)), (9, .int y14), (8, .int y10), (0, .ref (G.1 + b0)), (1, .int v1), (2, .int v2), (5, .int v5), (6, .int v6), (7, .int v7)]) dX2_leastNeed_122 rfl rfl (Nat.le_of_ble_eq_true rfl) rfl ?_
    refine aw_iinc (q := 9) (v := (v7 + 1)) (lv' := [(7, .int (v7 + 1)), (4, .int (v4 + 1)), (3, .int (if v3 < (y14 + y15) then (y14 + y15) else v3)), (9, .int y14), (8, .int y10), (0, .ref (G.1 + b0)), (1, .int v1), (2, .int v2), (5, .int v5), (6, .int v6)]) dX2_leastNeed_125 rfl rfl (Nat.le_of_ble_eq_true rfl) rfl ?_
    refine aw_goto (tgt := 64) dX2_leastNeed_128 (by decide) ?_
    cases hF
    exact aw_sub [5, 6, 7, 2, 1, 8, 9, 0] rfl (hc ((if v3 < (y14 + y15) then (y14 + y15) else v3), (v4 + 1), (v7 + 1)) rfl)
def cX2_leastNeed_43 (N : Nat) (R : qR) (I : qI) (b0 : Nat) (v1 : Int32) (v2 : Int32) (v3 : Int32) (v4 : Int32) (v5 : Int32) : Option ((Int32 × Int32 × Int32) ⊕ (Int32)) :=
  if (I b0 2) ≤ v5 then
    (some (.inr v3))
  else
    ((fX2_placeOf R I b0 v1 v5).bind fun y8 =>
    (qloop (fun s => cX2_leastNeed_64 N R I b0 v1 v2 v5 y8 s.1 s.2.1 s.2.2) N (v3, v4, (0 : Int32))).bind fun o16 =>
    some (.inl (o16.1, o16.2, (v5 + 1))))
set_option maxHeartbeats 4000000 in
set_option maxRecDepth 100000 in
theorem tX2_leastNeed_43 {l : Launch} {G : qG} {N : Nat} {R : qR} {I : qI} {As : List Value} {rv : Option Value} {b0 : Nat} {v1 : Int32} {v2 : Int32} (hW : qWT R) (hb0 : qok R b0 2) {o : Int32} (hx : AW (Zm l G mX2_leastNeed 2 As R rv I R) 137 [(3, .int o)] [] I R) : ∀ n s, qloop (fun s => cX2_leastNeed_43 N R I b0 v1 v2 s.1 s.2.1 s.2.2) n s = some o → (match s with | (v3, v4, v5) => AW (Zm l G mX2_leastNeed 2 As R rv I R) 43 [(0, .ref (G.1 + b0)), (1, .int v1), (2, .int v2), (3, .int v3), (4, .int v4), (5, .int v5)] [] I R) := by
  apply qloop_ind
  intro s x hF hc he
  obtain ⟨v3, v4, v5⟩ := s
  change cX2_leastNeed_43 N R I b0 v1 v2 v3 v4 v5 = some x at hF
  unfold cX2_leastNeed_43 at hF
  show AW _ 43 [(0, .ref (G.1 + b0)), (1, .int v1), (2, .int v2), (3, .int v3), (4, .int v4), (5, .int v5)] [] I R
  refine aw_iload dX2_leastNeed_43 5 rfl ?_
  refine aw_aload_n dX2_leastNeed_45 0 rfl rfl ?_
  refine aw_geti fl_X2_62 (by decide) fg_X2_2 hb0 rfl dX2_leastNeed_46 ?_
  refine aw_icmp_ge (tgt := 137) dX2_leastNeed_49 (by decide) (fun c7 => ?_) (fun c7 => ?_)
  · rw [if_pos c7] at hF
    cases hF
    have hE := he _ rfl
    subst hE
    exact aw_sub [3] rfl hx
  · rw [if_neg c7] at hF
    refine aw_aload_n dX2_leastNeed_52 0 rfl rfl ?_
    refine aw_iload_n dX2_leastNeed_53 1 rfl rfl ?_
    refine aw_iload dX2_leastNeed_54 5 rfl ?_
    obtain ⟨y8, ey8, hF⟩ := qbind hF
    refine aw_callVi (As := [.int v1, .int v5]) (sX2_placeOf hW hb0 ey8) cl_X2_98 rfl (qroomL (by decide) (by decide)) rfl hb0 (Nat.le_of_ble_eq_true rfl) dX2_leastNeed_56 rfl ?_
    refine aw_istore (lv' := [(6, .int y8), (0, .ref (G.1 + b0)), (1, .int v1), (2, .int v2), (3, .int v3), (4, .int v4), (5, .int v5)]) dX2_leastNeed_59 (Nat.le_of_ble_eq_true rfl) rfl ?_
    refine aw_iconst (v := (0 : Int32)) dX2_leastNeed_61 (by decide) ?_
    refine aw_istore (lv' := [(7, .int (0 : Int32)), (6, .int y8), (0, .ref (G.1 + b0)), (1, .int v1), (2, .int v2), (3, .int v3), (4, .int v4), (5, .int v5)]) dX2_leastNeed_62 (Nat.le_of_ble_eq_true rfl) rfl ?_
    obtain ⟨o16, eo16, hF⟩ := qbind hF
    refine aw_sub [2, 3, 4, 5, 6, 7, 1, 0] rfl (tX2_leastNeed_64 hW hb0 (o := o16) ?_ N (v3, v4, (0 : Int32)) eo16)
    show AW _ 131 [(0, .ref (G.1 + b0)), (1, .int v1), (2, .int v2), (3, .int o16.1), (4, .int o16.2), (5, .int v5)] [] I R
    refine aw_iinc (q := 5) (v := (v5 + 1)) (lv' := [(5, .int (v5 + 1)), (0, .ref (G.1 + b0)), (1, .int v1), (2, .int v2), (3, .int o16.1), (4, .int o16.2)]) dX2_leastNeed_131 rfl rfl (Nat.le_of_ble_eq_true rfl) rfl ?_
    refine aw_goto (tgt := 43) dX2_leastNeed_134 (by decide) ?_
    cases hF
    exact aw_sub [1, 2, 3, 4, 5, 0] rfl (hc (o16.1, o16.2, (v5 + 1)) rfl)
def fX2_leastNeed (N : Nat) (R : qR) (I : qI) (a0 : Nat) (p1 : Int32) : Option (Int32) :=
  (qloop (fun s => cX2_leastNeed_4 N R I a0 p1 s.1 s.2) N ((0 : Int32), (0 : Int32))).bind fun o5 =>
  (fJ6_bitCount_0f7a4 R I o5).bind fun y6 =>
  (qloop (fun s => cX2_leastNeed_43 N R I a0 p1 o5 s.1 s.2.1 s.2.2) N (y6, (0 : Int32), (1 : Int32))).bind fun o17 =>
  some o17
set_option maxHeartbeats 4000000 in
set_option maxRecDepth 100000 in
theorem sX2_leastNeed {l : Launch} {G : qG} {N : Nat} {R : qR} {I : qI} {a0 : Nat} {p1 : Int32} {rv : Int32} (hW : qWT R) (ha0 : qok R a0 2) (hF : fX2_leastNeed N R I a0 p1 = some rv) : qMt l G mX2_leastNeed 2 [.ref (G.1 + a0), .int p1] I R (some (.int rv)) I R := by
  unfold fX2_leastNeed at hF
  refine qMt_of (by decide) (Nat.le_of_ble_eq_true rfl) ⟨Nat.le_refl _, Nat.le_refl _⟩ ?_
  show AW _ 0 [(0, .ref (G.1 + a0)), (1, .int p1)] [] I R
  refine aw_iconst (v := (0 : Int32)) dX2_leastNeed_0 (by decide) ?_
  refine aw_istore_n (lv' := [(2, .int (0 : Int32)), (0, .ref (G.1 + a0)), (1, .int p1)]) dX2_leastNeed_1 rfl (Nat.le_of_ble_eq_true rfl) rfl ?_
  refine aw_iconst (v := (0 : Int32)) dX2_leastNeed_2 (by decide) ?_
  refine aw_istore_n (lv' := [(3, .int (0 : Int32)), (2, .int (0 : Int32)), (0, .ref (G.1 + a0)), (1, .int p1)]) dX2_leastNeed_3 rfl (Nat.le_of_ble_eq_true rfl) rfl ?_
  obtain ⟨o5, eo5, hF⟩ := qbind hF
  refine aw_sub [2, 3, 1, 0] rfl (tX2_leastNeed_4 hW ha0 (o := o5) ?_ N ((0 : Int32), (0 : Int32)) eo5)
  show AW _ 32 [(0, .ref (G.1 + a0)), (1, .int p1), (2, .int o5)] [] I R
  refine aw_iload_n dX2_leastNeed_32 2 rfl rfl ?_
  obtain ⟨y6, ey6, hF⟩ := qbind hF
  refine aw_callSi (sJ6_bitCount_0f7a4 hW  ey6) cl_X2_101 rfl (qroomL (by decide) (by decide)) rfl (Nat.le_of_ble_eq_true rfl) dX2_leastNeed_33 rfl ?_
  refine aw_istore_n (lv' := [(3, .int y6), (0, .ref (G.1 + a0)), (1, .int p1), (2, .int o5)]) dX2_leastNeed_36 rfl (Nat.le_of_ble_eq_true rfl) rfl ?_
  refine aw_iconst (v := (0 : Int32)) dX2_leastNeed_37 (by decide) ?_
  refine aw_istore (lv' := [(4, .int (0 : Int32)), (3, .int y6), (0, .ref (G.1 + a0)), (1, .int p1), (2, .int o5)]) dX2_leastNeed_38 (Nat.le_of_ble_eq_true rfl) rfl ?_
  refine aw_iconst (v := (1 : Int32)) dX2_leastNeed_40 (by decide) ?_
  refine aw_istore (lv' := [(5, .int (1 : Int32)), (4, .int (0 : Int32)), (3, .int y6), (0, .ref (G.1 + a0)), (1, .int p1), (2, .int o5)]) dX2_leastNeed_41 (Nat.le_of_ble_eq_true rfl) rfl ?_
  obtain ⟨o17, eo17, hF⟩ := qbind hF
  refine aw_sub [3, 4, 5, 2, 1, 0] rfl (tX2_leastNeed_43 hW ha0 (o := o17) ?_ N (y6, (0 : Int32), (1 : Int32)) eo17)
  show AW _ 137 [(3, .int o17)] [] I R
  refine aw_iload_n dX2_leastNeed_137 0 rfl rfl ?_
  cases hF
  exact aw_iret rfl dX2_leastNeed_138 rfl rfl rfl
def fX2_needOf (N : Nat) (R : qR) (I : qI) (a0 : Nat) (p1 : Int32) : Option (Int32 × qI) :=
  (R.1 a0 8).bind fun r1 =>
  (qrd I R r1 p1).bind fun x2 =>
  if (x2 >>> ((6 : Int32) &&& 31)) = (I a0 4) then
    (some ((x2 &&& (63 : Int32)), I))
  else
    ((fX2_leastNeed N R I a0 p1).bind fun y4 =>
    (fX2_keep R I a0 p1 y4).bind fun y5 =>
    (qrd y5 R r1 p1).bind fun x6 =>
    some ((x6 &&& (63 : Int32)), y5))
set_option maxHeartbeats 4000000 in
set_option maxRecDepth 100000 in
theorem sX2_needOf {l : Launch} {G : qG} {N : Nat} {R : qR} {I : qI} {a0 : Nat} {p1 : Int32} {rv : Int32} {rI : qI} (hW : qWT R) (ha0 : qok R a0 2) (hF : fX2_needOf N R I a0 p1 = some (rv, rI)) : qMt l G mX2_needOf 3 [.ref (G.1 + a0), .int p1] I R (some (.int rv)) rI R := by
  unfold fX2_needOf at hF
  refine qMt_of (by decide) (Nat.le_of_ble_eq_true rfl) ⟨Nat.le_refl _, Nat.le_refl _⟩ ?_
  show AW _ 0 [(0, .ref (G.1 + a0)), (1, .int p1)] [] I R
  refine aw_aload_n dX2_needOf_0 0 rfl rfl ?_
  obtain ⟨r1, er1, hF⟩ := qbind hF
  have kr1 : qok R r1 9 := hW.get ha0 er1 rfl
  refine aw_getr fl_X2_24 (by decide) fg_X2_8 ha0 er1 rfl dX2_needOf_1 ?_
  refine aw_iload_n dX2_needOf_4 1 rfl rfl ?_
  obtain ⟨x2, ex2, hF⟩ := qbind hF
  refine aw_ialdq kr1 ex2 dX2_needOf_5 ?_
  refine aw_bipush (v := (6 : Int32)) dX2_needOf_6 (by decide) ?_
  refine aw_ishr dX2_needOf_8 ?_
  refine aw_aload_n dX2_needOf_9 0 rfl rfl ?_
  refine aw_geti fl_X2_85 (by decide) fg_X2_4 ha0 rfl dX2_needOf_10 ?_
  refine aw_icmp_eq (tgt := 26) dX2_needOf_13 (by decide) (fun c3 => ?_) (fun c3 => ?_)
  · rw [if_pos c3] at hF
    refine aw_aload_n dX2_needOf_26 0 rfl rfl ?_
    refine aw_getr fl_X2_24 (by decide) fg_X2_8 ha0 er1 rfl dX2_needOf_27 ?_
    refine aw_iload_n dX2_needOf_30 1 rfl rfl ?_
    refine aw_ialdq kr1 ex2 dX2_needOf_31 ?_
    refine aw_bipush (v := (63 : Int32)) dX2_needOf_32 (by decide) ?_
    refine aw_iand dX2_needOf_34 ?_
    cases hF
    exact aw_iret rfl dX2_needOf_35 rfl rfl rfl
  · rw [if_neg c3] at hF
    refine aw_aload_n dX2_needOf_16 0 rfl rfl ?_
    refine aw_iload_n dX2_needOf_17 1 rfl rfl ?_
    refine aw_aload_n dX2_needOf_18 0 rfl rfl ?_
    refine aw_iload_n dX2_needOf_19 1 rfl rfl ?_
    obtain ⟨y4, ey4, hF⟩ := qbind hF
    refine aw_callVi (As := [.int p1]) (sX2_leastNeed hW ha0 ey4) cl_X2_95 rfl (qroomL (by decide) (by decide)) rfl ha0 (Nat.le_of_ble_eq_true rfl) dX2_needOf_20 rfl ?_
    obtain ⟨y5, ey5, hF⟩ := qbind hF
    refine aw_callVv (As := [.int p1, .int y4]) (sX2_keep hW ha0 ey5) cl_X2_58 rfl (qroomL (by decide) (by decide)) rfl ha0 (Nat.le_of_ble_eq_true rfl) dX2_needOf_23 rfl ?_
    refine aw_aload_n dX2_needOf_26 0 rfl rfl ?_
    refine aw_getr fl_X2_24 (by decide) fg_X2_8 ha0 er1 rfl dX2_needOf_27 ?_
    refine aw_iload_n dX2_needOf_30 1 rfl rfl ?_
    obtain ⟨x6, ex6, hF⟩ := qbind hF
    refine aw_ialdq kr1 ex6 dX2_needOf_31 ?_
    refine aw_bipush (v := (63 : Int32)) dX2_needOf_32 (by decide) ?_
    refine aw_iand dX2_needOf_34 ?_
    cases hF
    exact aw_iret rfl dX2_needOf_35 rfl rfl rfl
def cX2_fillPair_26 (N : Nat) (R : qR) (b0 : Nat) (b2 : Nat) (b3 : Nat) (v4 : Int32) (v5 : Int32) (v6 : Int32) (I : qI) : Option ((Int32 × qI) ⊕ (qI)) :=
  if v6 < 0 then
    (some (.inr I))
  else
    (if v5 = (I b2 1) then
      ((R.1 b0 7).bind fun r4 =>
      (qwr I R r4 ((v4 + (v5 * (8 : Int32))) + v6) ((((I b2 1) - v5) + (I b3 1)) - v6)).bind fun I5 =>
      some (.inl ((v6 + (-1)), I5)))
    else
      (if v6 = (I b3 1) then
        ((R.1 b0 7).bind fun r19 =>
        (qwr I R r19 ((v4 + (v5 * (8 : Int32))) + v6) ((((I b2 1) - v5) + (I b3 1)) - v6)).bind fun I20 =>
        some (.inl ((v6 + (-1)), I20)))
      else
        ((R.1 b2 2).bind fun r7 =>
        (qrd I R r7 v5).bind fun x8 =>
        (R.1 b3 2).bind fun r9 =>
        (qrd I R r9 v6).bind fun x10 =>
        if x8 = x10 then
          ((R.1 b0 7).bind fun r16 =>
          (qrd I R r16 ((((v4 + (v5 * (8 : Int32))) + v6) + (8 : Int32)) + (1 : Int32))).bind fun x17 =>
          (qwr I R r16 ((v4 + (v5 * (8 : Int32))) + v6) ((1 : Int32) + x17)).bind fun I18 =>
          some (.inl ((v6 + (-1)), I18)))
        else
          ((R.1 b0 7).bind fun r12 =>
          (qrd I R r12 (((v4 + (v5 * (8 : Int32))) + v6) + (8 : Int32))).bind fun x13 =>
          (qrd I R r12 (((v4 + (v5 * (8 : Int32))) + v6) + (1 : Int32))).bind fun x14 =>
          (qwr I R r12 ((v4 + (v5 * (8 : Int32))) + v6) ((1 : Int32) + (if x14 < x13 then x14 else x13))).bind fun I15 =>
          some (.inl ((v6 + (-1)), I15))))))
set_option maxHeartbeats 4000000 in
set_option maxRecDepth 100000 in
theorem tX2_fillPair_26 {l : Launch} {G : qG} {N : Nat} {R : qR} {As : List Value} {rv : Option Value} {I1 : qI} {b0 : Nat} {b2 : Nat} {b3 : Nat} {v4 : Int32} {v5 : Int32} (hW : qWT R) (hb0 : qok R b0 2) (hb2 : qok R b2 5) (hb3 : qok R b3 5) {o : qI} (hx : AW (Zm l G mX2_fillPair 1 As R rv I1 R) 165 [(0, .ref (G.1 + b0)), (2, .ref (G.1 + b2)), (3, .ref (G.1 + b3)), (4, .int v4), (5, .int v5)] [] o R) : ∀ n s, qloop (fun s => cX2_fillPair_26 N R b0 b2 b3 v4 v5 s.1 s.2) n s = some o → (match s with | (v6, I) => AW (Zm l G mX2_fillPair 1 As R rv I1 R) 26 [(0, .ref (G.1 + b0)), (2, .ref (G.1 + b2)), (3, .ref (G.1 + b3)), (4, .int v4), (5, .int v5), (6, .int v6)] [] I R) := by
  apply qloop_ind
  intro s x hF hc he
  obtain ⟨v6, I⟩ := s
  change cX2_fillPair_26 N R b0 b2 b3 v4 v5 v6 I = some x at hF
  unfold cX2_fillPair_26 at hF
  show AW _ 26 [(0, .ref (G.1 + b0)), (2, .ref (G.1 + b2)), (3, .ref (G.1 + b3)), (4, .int v4), (5, .int v5), (6, .int v6)] [] I R
  refine aw_iload dX2_fillPair_26 5 rfl ?_
  refine aw_if_lt (tgt := 165) dX2_fillPair_28 (by decide) (fun c2 => ?_) (fun c2 => ?_)
  · rw [if_pos c2] at hF
    cases hF
    have hE := he _ rfl
    subst hE
    exact aw_sub [0, 1, 2, 3, 4] rfl hx
  · rw [if_neg c2] at hF
    refine aw_iload dX2_fillPair_31 3 rfl ?_
    refine aw_iload dX2_fillPair_33 4 rfl ?_
    refine aw_bipush (v := (8 : Int32)) dX2_fillPair_35 (by decide) ?_
    refine aw_imul dX2_fillPair_37 ?_
    refine aw_iadd dX2_fillPair_38 ?_
    refine aw_iload dX2_fillPair_39 5 rfl ?_
    refine aw_iadd dX2_fillPair_41 ?_
    refine aw_istore (lv' := [(7, .int ((v4 + (v5 * (8 : Int32))) + v6)), (0, .ref (G.1 + b0)), (2, .ref (G.1 + b2)), (3, .ref (G.1 + b3)), (4, .int v4), (5, .int v5), (6, .int v6)]) dX2_fillPair_42 (Nat.le_of_ble_eq_true rfl) rfl ?_
    refine aw_iload dX2_fillPair_44 5 rfl ?_
    refine aw_aload_n dX2_fillPair_46 2 rfl rfl ?_
    refine aw_geti fl_X2_31 (by decide) fg_X5_1 hb2 rfl dX2_fillPair_47 ?_
    refine aw_icmp_eq (tgt := 62) dX2_fillPair_50 (by decide) (fun c3 => ?_) (fun c3 => ?_)
    · rw [if_pos c3] at hF
      refine aw_aload_n dX2_fillPair_62 1 rfl rfl ?_
      obtain ⟨r4, er4, hF⟩ := qbind hF
      have kr4 : qok R r4 9 := hW.get hb0 er4 rfl
      refine aw_getr fl_X2_21 (by decide) fg_X2_7 hb0 er4 rfl dX2_fillPair_63 ?_
      refine aw_iload dX2_fillPair_66 0 rfl ?_
      refine aw_aload_n dX2_fillPair_68 2 rfl rfl ?_
      refine aw_geti fl_X2_31 (by decide) fg_X5_1 hb2 rfl dX2_fillPair_69 ?_
      refine aw_iload dX2_fillPair_72 5 rfl ?_
      refine aw_isub dX2_fillPair_74 ?_
      refine aw_aload_n dX2_fillPair_75 3 rfl rfl ?_
      refine aw_geti fl_X2_31 (by decide) fg_X5_1 hb3 rfl dX2_fillPair_76 ?_
      refine aw_iadd dX2_fillPair_79 ?_
      refine aw_iload dX2_fillPair_80 6 rfl ?_
      refine aw_isub dX2_fillPair_82 ?_
      obtain ⟨I5, eI5, hF⟩ := qbind hF
      refine aw_iastq kr4 eI5 dX2_fillPair_83 ?_
      refine aw_goto (tgt := 159) dX2_fillPair_84 (by decide) ?_
      refine aw_iinc (q := 6) (v := (v6 + (-1))) (lv' := [(6, .int (v6 + (-1))), (7, .int ((v4 + (v5 * (8 : Int32))) + v6)), (0, .ref (G.1 + b0)), (2, .ref (G.1 + b2)), (3, .ref (G.1 + b3)), (4, .int v4), (5, .int v5)]) dX2_fillPair_159 rfl rfl (Nat.le_of_ble_eq_true rfl) rfl ?_
      refine aw_goto (tgt := 26) dX2_fillPair_162 (by decide) ?_
      cases hF
      exact aw_sub [2, 3, 4, 5, 6, 0] rfl (hc ((v6 + (-1)), I5) rfl)
    · rw [if_neg c3] at hF
      refine aw_iload dX2_fillPair_53 6 rfl ?_
      refine aw_aload_n dX2_fillPair_55 3 rfl rfl ?_
      refine aw_geti fl_X2_31 (by decide) fg_X5_1 hb3 rfl dX2_fillPair_56 ?_
      refine aw_icmp_ne (tgt := 87) dX2_fillPair_59 (by decide) (fun c6 => ?_) (fun c6 => ?_)
      · rw [if_neg c6] at hF
        refine aw_aload_n dX2_fillPair_87 2 rfl rfl ?_
        obtain ⟨r7, er7, hF⟩ := qbind hF
        have kr7 : qok R r7 9 := hW.get hb2 er7 rfl
        refine aw_getr fl_X2_77 (by decide) fg_X5_2 hb2 er7 rfl dX2_fillPair_88 ?_
        refine aw_iload dX2_fillPair_91 5 rfl ?_
        obtain ⟨x8, ex8, hF⟩ := qbind hF
        refine aw_ialdq kr7 ex8 dX2_fillPair_93 ?_
        refine aw_aload_n dX2_fillPair_94 3 rfl rfl ?_
        obtain ⟨r9, er9, hF⟩ := qbind hF
        have kr9 : qok R r9 9 := hW.get hb3 er9 rfl
        refine aw_getr fl_X2_77 (by decide) fg_X5_2 hb3 er9 rfl dX2_fillPair_95 ?_
        refine aw_iload dX2_fillPair_98 6 rfl ?_
        obtain ⟨x10, ex10, hF⟩ := qbind hF
        refine aw_ialdq kr9 ex10 dX2_fillPair_100 ?_
        refine aw_icmp_ne (tgt := 128) dX2_fillPair_101 (by decide) (fun c11 => ?_) (fun c11 => ?_)
        · rw [if_neg c11] at hF
          refine aw_aload_n dX2_fillPair_128 1 rfl rfl ?_
          obtain ⟨r12, er12, hF⟩ := qbind hF
          have kr12 : qok R r12 9 := hW.get hb0 er12 rfl
          refine aw_getr fl_X2_21 (by decide) fg_X2_7 hb0 er12 rfl dX2_fillPair_129 ?_
          refine aw_iload dX2_fillPair_132 0 rfl ?_
          refine aw_iconst (v := (1 : Int32)) dX2_fillPair_134 (by decide) ?_
          refine aw_aload_n dX2_fillPair_135 1 rfl rfl ?_
          refine aw_getr fl_X2_21 (by decide) fg_X2_7 hb0 er12 rfl dX2_fillPair_136 ?_
          refine aw_iload dX2_fillPair_139 0 rfl ?_
          refine aw_bipush (v := (8 : Int32)) dX2_fillPair_141 (by decide) ?_
          refine aw_iadd dX2_fillPair_143 ?_
          obtain ⟨x13, ex13, hF⟩ := qbind hF
          refine aw_ialdq kr12 ex13 dX2_fillPair_144 ?_
          refine aw_aload_n dX2_fillPair_145 1 rfl rfl ?_
          refine aw_getr fl_X2_21 (by decide) fg_X2_7 hb0 er12 rfl dX2_fillPair_146 ?_
          refine aw_iload dX2_fillPair_149 0 rfl ?_
          refine aw_iconst (v := (1 : Int32)) dX2_fillPair_151 (by decide) ?_
          refine aw_iadd dX2_fillPair_152 ?_
          obtain ⟨x14, ex14, hF⟩ := qbind hF
          refine aw_ialdq kr12 ex14 dX2_fillPair_153 ?_
          refine aw_minq cl_X2_80 rfl (Nat.le_of_ble_eq_true rfl) (by decide) dX2_fillPair_154 ?_
          refine aw_iadd dX2_fillPair_157 ?_
          obtain ⟨I15, eI15, hF⟩ := qbind hF
          refine aw_iastq kr12 eI15 dX2_fillPair_158 ?_
          refine aw_iinc (q := 6) (v := (v6 + (-1))) (lv' := [(6, .int (v6 + (-1))), (7, .int ((v4 + (v5 * (8 : Int32))) + v6)), (0, .ref (G.1 + b0)), (2, .ref (G.1 + b2)), (3, .ref (G.1 + b3)), (4, .int v4), (5, .int v5)]) dX2_fillPair_159 rfl rfl (Nat.le_of_ble_eq_true rfl) rfl ?_
          refine aw_goto (tgt := 26) dX2_fillPair_162 (by decide) ?_
          cases hF
          exact aw_sub [2, 3, 4, 5, 6, 0] rfl (hc ((v6 + (-1)), I15) rfl)
        · rw [if_pos c11] at hF
          refine aw_aload_n dX2_fillPair_104 1 rfl rfl ?_
          obtain ⟨r16, er16, hF⟩ := qbind hF
          have kr16 : qok R r16 9 := hW.get hb0 er16 rfl
          refine aw_getr fl_X2_21 (by decide) fg_X2_7 hb0 er16 rfl dX2_fillPair_105 ?_
          refine aw_iload dX2_fillPair_108 0 rfl ?_
          refine aw_iconst (v := (1 : Int32)) dX2_fillPair_110 (by decide) ?_
          refine aw_aload_n dX2_fillPair_111 1 rfl rfl ?_
          refine aw_getr fl_X2_21 (by decide) fg_X2_7 hb0 er16 rfl dX2_fillPair_112 ?_
          refine aw_iload dX2_fillPair_115 0 rfl ?_
          refine aw_bipush (v := (8 : Int32)) dX2_fillPair_117 (by decide) ?_
          refine aw_iadd dX2_fillPair_119 ?_
          refine aw_iconst (v := (1 : Int32)) dX2_fillPair_120 (by decide) ?_
          refine aw_iadd dX2_fillPair_121 ?_
          obtain ⟨x17, ex17, hF⟩ := qbind hF
          refine aw_ialdq kr16 ex17 dX2_fillPair_122 ?_
          refine aw_iadd dX2_fillPair_123 ?_
          obtain ⟨I18, eI18, hF⟩ := qbind hF
          refine aw_iastq kr16 eI18 dX2_fillPair_124 ?_
          refine aw_goto (tgt := 159) dX2_fillPair_125 (by decide) ?_
          refine aw_iinc (q := 6) (v := (v6 + (-1))) (lv' := [(6, .int (v6 + (-1))), (7, .int ((v4 + (v5 * (8 : Int32))) + v6)), (0, .ref (G.1 + b0)), (2, .ref (G.1 + b2)), (3, .ref (G.1 + b3)), (4, .int v4), (5, .int v5)]) dX2_fillPair_159 rfl rfl (Nat.le_of_ble_eq_true rfl) rfl ?_
          refine aw_goto (tgt := 26) dX2_fillPair_162 (by decide) ?_
          cases hF
          exact aw_sub [2, 3, 4, 5, 6, 0] rfl (hc ((v6 + (-1)), I18) rfl)
      · rw [if_pos c6] at hF
        refine aw_aload_n dX2_fillPair_62 1 rfl rfl ?_
        obtain ⟨r19, er19, hF⟩ := qbind hF
        have kr19 : qok R r19 9 := hW.get hb0 er19 rfl
        refine aw_getr fl_X2_21 (by decide) fg_X2_7 hb0 er19 rfl dX2_fillPair_63 ?_
        refine aw_iload dX2_fillPair_66 0 rfl ?_
        refine aw_aload_n dX2_fillPair_68 2 rfl rfl ?_
        refine aw_geti fl_X2_31 (by decide) fg_X5_1 hb2 rfl dX2_fillPair_69 ?_
        refine aw_iload dX2_fillPair_72 5 rfl ?_
        refine aw_isub dX2_fillPair_74 ?_
        refine aw_aload_n dX2_fillPair_75 3 rfl rfl ?_
        refine aw_geti fl_X2_31 (by decide) fg_X5_1 hb3 rfl dX2_fillPair_76 ?_
        refine aw_iadd dX2_fillPair_79 ?_
        refine aw_iload dX2_fillPair_80 6 rfl ?_
        refine aw_isub dX2_fillPair_82 ?_
        obtain ⟨I20, eI20, hF⟩ := qbind hF
        refine aw_iastq kr19 eI20 dX2_fillPair_83 ?_
        refine aw_goto (tgt := 159) dX2_fillPair_84 (by decide) ?_
        refine aw_iinc (q := 6) (v := (v6 + (-1))) (lv' := [(6, .int (v6 + (-1))), (7, .int ((v4 + (v5 * (8 : Int32))) + v6)), (0, .ref (G.1 + b0)), (2, .ref (G.1 + b2)), (3, .ref (G.1 + b3)), (4, .int v4), (5, .int v5)]) dX2_fillPair_159 rfl rfl (Nat.le_of_ble_eq_true rfl) rfl ?_
        refine aw_goto (tgt := 26) dX2_fillPair_162 (by decide) ?_
        cases hF
        exact aw_sub [2, 3, 4, 5, 6, 0] rfl (hc ((v6 + (-1)), I20) rfl)
def cX2_fillPair_15 (N : Nat) (R : qR) (b0 : Nat) (b2 : Nat) (b3 : Nat) (v4 : Int32) (v5 : Int32) (I : qI) : Option ((Int32 × qI) ⊕ (qI)) :=
  if v5 < 0 then
    (some (.inr I))
  else
    ((qloop (fun s => cX2_fillPair_26 N R b0 b2 b3 v4 v5 s.1 s.2) N ((I b3 1), I)).bind fun o21 =>
    some (.inl ((v5 + (-1)), o21)))
set_option maxHeartbeats 4000000 in
set_option maxRecDepth 100000 in
theorem tX2_fillPair_15 {l : Launch} {G : qG} {N : Nat} {R : qR} {As : List Value} {rv : Option Value} {I1 : qI} {b0 : Nat} {b2 : Nat} {b3 : Nat} {v4 : Int32} (hW : qWT R) (hb0 : qok R b0 2) (hb2 : qok R b2 5) (hb3 : qok R b3 5) {o : qI} (hx : AW (Zm l G mX2_fillPair 1 As R rv I1 R) 171 [] [] o R) : ∀ n s, qloop (fun s => cX2_fillPair_15 N R b0 b2 b3 v4 s.1 s.2) n s = some o → (match s with | (v5, I) => AW (Zm l G mX2_fillPair 1 As R rv I1 R) 15 [(0, .ref (G.1 + b0)), (2, .ref (G.1 + b2)), (3, .ref (G.1 + b3)), (4, .int v4), (5, .int v5)] [] I R) := by
  apply qloop_ind
  intro s x hF hc he
  obtain ⟨v5, I⟩ := s
  change cX2_fillPair_15 N R b0 b2 b3 v4 v5 I = some x at hF
  unfold cX2_fillPair_15 at hF
  show AW _ 15 [(0, .ref (G.1 + b0)), (2, .ref (G.1 + b2)), (3, .ref (G.1 + b3)), (4, .int v4), (5, .int v5)] [] I R
  refine aw_iload dX2_fillPair_15 4 rfl ?_
  refine aw_if_lt (tgt := 171) dX2_fillPair_17 (by decide) (fun c1 => ?_) (fun c1 => ?_)
  · rw [if_pos c1] at hF
    cases hF
    have hE := he _ rfl
    subst hE
    exact aw_sub [] rfl hx
  · rw [if_neg c1] at hF
    refine aw_aload_n dX2_fillPair_20 2 rfl rfl ?_
    refine aw_geti fl_X2_31 (by decide) fg_X5_1 hb3 rfl dX2_fillPair_21 ?_
    refine aw_istore (lv' := [(6, .int (I b3 1)), (0, .ref (G.1 + b0)), (2, .ref (G.1 + b2)), (3, .ref (G.1 + b3)), (4, .int v4), (5, .int v5)]) dX2_fillPair_24 (Nat.le_of_ble_eq_true rfl) rfl ?_
    obtain ⟨o21, eo21, hF⟩ := qbind hF
    refine aw_sub [1, 2, 3, 4, 5, 0] rfl (tX2_fillPair_26 hW hb0 hb2 hb3 (o := o21) ?_ N ((I b3 1), I) eo21)
    show AW _ 165 [(0, .ref (G.1 + b0)), (2, .ref (G.1 + b2)), (3, .ref (G.1 + b3)), (4, .int v4), (5, .int v5)] [] o21 R
    refine aw_iinc (q := 4) (v := (v5 + (-1))) (lv' := [(5, .int (v5 + (-1))), (0, .ref (G.1 + b0)), (2, .ref (G.1 + b2)), (3, .ref (G.1 + b3)), (4, .int v4)]) dX2_fillPair_165 rfl rfl (Nat.le_of_ble_eq_true rfl) rfl ?_
    refine aw_goto (tgt := 15) dX2_fillPair_168 (by decide) ?_
    cases hF
    exact aw_sub [1, 2, 3, 4, 0] rfl (hc ((v5 + (-1)), o21) rfl)
def fX2_fillPair (N : Nat) (R : qR) (I : qI) (a0 : Nat) (p1 : Int32) (a2 : Nat) (a3 : Nat) : Option (qI) :=
  (qloop (fun s => cX2_fillPair_15 N R a0 a2 a3 ((p1 * (8 : Int32)) * (8 : Int32)) s.1 s.2) N ((I a2 1), I)).bind fun o22 =>
  some o22
set_option maxHeartbeats 4000000 in
set_option maxRecDepth 100000 in
theorem sX2_fillPair {l : Launch} {G : qG} {N : Nat} {R : qR} {I : qI} {a0 : Nat} {p1 : Int32} {a2 : Nat} {a3 : Nat} {rI : qI} (hW : qWT R) (ha0 : qok R a0 2) (ha2 : qok R a2 5) (ha3 : qok R a3 5) (hF : fX2_fillPair N R I a0 p1 a2 a3 = some rI) : qMt l G mX2_fillPair 1 [.ref (G.1 + a0), .int p1, .ref (G.1 + a2), .ref (G.1 + a3)] I R (none) rI R := by
  unfold fX2_fillPair at hF
  refine qMt_of (by decide) (Nat.le_of_ble_eq_true rfl) ⟨Nat.le_refl _, Nat.le_refl _⟩ ?_
  show AW _ 0 [(0, .ref (G.1 + a0)), (1, .int p1), (2, .ref (G.1 + a2)), (3, .ref (G.1 + a3))] [] I R
  refine aw_iload_n dX2_fillPair_0 1 rfl rfl ?_
  refine aw_bipush (v := (8 : Int32)) dX2_fillPair_1 (by decide) ?_
  refine aw_imul dX2_fillPair_3 ?_
  refine aw_bipush (v := (8 : Int32)) dX2_fillPair_4 (by decide) ?_
  refine aw_imul dX2_fillPair_6 ?_
  refine aw_istore (lv' := [(4, .int ((p1 * (8 : Int32)) * (8 : Int32))), (0, .ref (G.1 + a0)), (1, .int p1), (2, .ref (G.1 + a2)), (3, .ref (G.1 + a3))]) dX2_fillPair_7 (Nat.le_of_ble_eq_true rfl) rfl ?_
  refine aw_aload_n dX2_fillPair_9 3 rfl rfl ?_
  refine aw_geti fl_X2_31 (by decide) fg_X5_1 ha2 rfl dX2_fillPair_10 ?_
  refine aw_istore (lv' := [(5, .int (I a2 1)), (4, .int ((p1 * (8 : Int32)) * (8 : Int32))), (0, .ref (G.1 + a0)), (1, .int p1), (2, .ref (G.1 + a2)), (3, .ref (G.1 + a3))]) dX2_fillPair_13 (Nat.le_of_ble_eq_true rfl) rfl ?_
  obtain ⟨o22, eo22, hF⟩ := qbind hF
  refine aw_sub [2, 4, 5, 1, 0] rfl (tX2_fillPair_15 hW ha0 ha2 ha3 (o := o22) ?_ N ((I a2 1), I) eo22)
  show AW _ 171 [] [] o22 R
  cases hF
  exact aw_vret rfl dX2_fillPair_171 rfl rfl rfl
