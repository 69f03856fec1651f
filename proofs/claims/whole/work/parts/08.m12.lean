def cX6_collectMinutes_7 (N : Nat) (R : qR) (b0 : Nat) (v1 : Int32) (v2 : Int32) (I : qI) : Option ((Int32 × qI) ⊕ (qI)) :=
  if (I b0 1) ≤ v2 then
    (some (.inr I))
  else
    ((R.1 b0 0).bind fun r3 =>
    (qra R r3 v2).bind fun r4 =>
    (R.1 r4 5).bind fun r5 =>
    (qrd I R r5 v1).bind fun x6 =>
    if x6 = (-1 : Int32) then
      (some (.inl ((v2 + 1), I)))
    else
      ((fX5_runsOn R I r4 (I b0 2)).bind fun y8 =>
      if y8 = 0 then
        (some (.inl ((v2 + 1), I)))
      else
        ((R.1 r4 4).bind fun r10 =>
        (qrd I R r10 x6).bind fun x11 =>
        (fX6_insertMinute N R I b0 x11).bind fun y12 =>
        some (.inl ((v2 + 1), y12)))))
set_option maxHeartbeats 4000000 in
set_option maxRecDepth 100000 in
theorem tX6_collectMinutes_7 {l : Launch} {G : qG} {N : Nat} {R : qR} {As : List Value} {rv : Option Value} {I1 : qI} {b0 : Nat} {v1 : Int32} (hW : qWT R) (hb0 : qok R b0 6) {o : qI} (hx : AW (Zm l G mX6_collectMinutes 2 As R rv I1 R) 69 [] [] o R) : ∀ n s, qloop (fun s => cX6_collectMinutes_7 N R b0 v1 s.1 s.2) n s = some o → (match s with | (v2, I) => AW (Zm l G mX6_collectMinutes 2 As R rv I1 R) 7 [(0, .ref (G.1 + b0)), (1, .int v1), (2, .int v2)] [] I R) := by
  apply qloop_ind
  intro s x hF hc he
  obtain ⟨v2, I⟩ := s
  change cX6_collectMinutes_7 N R b0 v1 v2 I = some x at hF
  unfold cX6_collectMinutes_7 at hF
  show AW _ 7 [(0, .ref (G.1 + b0)), (1, .int v1), (2, .int v2)] [] I R
  refine aw_iload_n dX6_collectMinutes_7 2 rfl rfl ?_
  refine aw_aload_n dX6_collectMinutes_8 0 rfl rfl ?_
  refine aw_geti fl_X6_42 (by decide) fg_X6_1 hb0 rfl dX6_collectMinutes_9 ?_
  refine aw_icmp_ge (tgt := 69) dX6_collectMinutes_12 (by decide) (fun c2 => ?_) (fun c2 => ?_)
  · rw [if_pos c2] at hF
    cases hF
    have hE := he _ rfl
    subst hE
    exact aw_sub [] rfl hx
  · rw [if_neg c2] at hF
    refine aw_aload_n dX6_collectMinutes_15 0 rfl rfl ?_
    obtain ⟨r3, er3, hF⟩ := qbind hF
    have kr3 : qok R r3 11 := hW.get hb0 er3 rfl
    refine aw_getr fl_X6_11 (by decide) fg_X6_0 hb0 er3 rfl dX6_collectMinutes_16 ?_
    refine aw_iload_n dX6_collectMinutes_19 2 rfl rfl ?_
    obtain ⟨r4, er4, hF⟩ := qbind hF
    have kr4 : qok R r4 5 := hW.elem kr3 er4
    refine aw_aaldq kr3 er4 dX6_collectMinutes_20 ?_
    obtain ⟨r5, er5, hF⟩ := qbind hF
    have kr5 : qok R r5 9 := hW.get kr4 er5 rfl
    refine aw_getr fl_X6_124 (by decide) fg_X5_5 kr4 er5 rfl dX6_collectMinutes_21 ?_
    refine aw_iload_n dX6_collectMinutes_24 1 rfl rfl ?_
    obtain ⟨x6, ex6, hF⟩ := qbind hF
    refine aw_ialdq kr5 ex6 dX6_collectMinutes_25 ?_
    refine aw_istore_n (lv' := [(3, .int x6), (0, .ref (G.1 + b0)), (1, .int v1), (2, .int v2)]) dX6_collectMinutes_26 rfl (Nat.le_of_ble_eq_true rfl) rfl ?_
    refine aw_iload_n dX6_collectMinutes_27 0 rfl rfl ?_
    refine aw_iconst (v := (-1 : Int32)) dX6_collectMinutes_28 (by decide) ?_
    refine aw_icmp_eq (tgt := 63) dX6_collectMinutes_29 (by decide) (fun c7 => ?_) (fun c7 => ?_)
    · rw [if_pos c7] at hF
      refine aw_iinc (q := 3) (v := (v2 + 1)) (lv' := [(2, .int (v2 + 1)), (3, .int x6), (0, .ref (G.1 + b0)), (1, .int v1)]) dX6_collectMinutes_63 rfl rfl (Nat.le_of_ble_eq_true rfl) rfl ?_
      refine aw_goto (tgt := 7) dX6_collectMinutes_66 (by decide) ?_
      cases hF
      exact aw_sub [2, 3, 0] rfl (hc ((v2 + 1), I) rfl)
    · rw [if_neg c7] at hF
      refine aw_aload_n dX6_collectMinutes_32 1 rfl rfl ?_
      refine aw_getr fl_X6_11 (by decide) fg_X6_0 hb0 er3 rfl dX6_collectMinutes_33 ?_
      refine aw_iload_n dX6_collectMinutes_36 3 rfl rfl ?_
      refine aw_aaldq kr3 er4 dX6_collectMinutes_37 ?_
      refine aw_aload_n dX6_collectMinutes_38 1 rfl rfl ?_
      refine aw_geti fl_X6_46 (by decide) fg_X6_2 hb0 rfl dX6_collectMinutes_39 ?_
      obtain ⟨y8, ey8, hF⟩ := qbind hF
      refine aw_callVi (As := [.int (I b0 2)]) (sX5_runsOn hW kr4 ey8) cl_X6_103 rfl (qroomL (by decide) (by decide)) rfl kr4 (Nat.le_of_ble_eq_true rfl) dX6_collectMinutes_42 rfl ?_
      refine aw_if_eq (tgt := 63) dX6_collectMinutes_45 (by decide) (fun c9 => ?_) (fun c9 => ?_)
      · rw [if_pos c9] at hF
        refine aw_iinc (q := 3) (v := (v2 + 1)) (lv' := [(2, .int (v2 + 1)), (3, .int x6), (0, .ref (G.1 + b0)), (1, .int v1)]) dX6_collectMinutes_63 rfl rfl (Nat.le_of_ble_eq_true rfl) rfl ?_
        refine aw_goto (tgt := 7) dX6_collectMinutes_66 (by decide) ?_
        cases hF
        exact aw_sub [2, 3, 0] rfl (hc ((v2 + 1), I) rfl)
      · rw [if_neg c9] at hF
        refine aw_aload_n dX6_collectMinutes_48 1 rfl rfl ?_
        refine aw_aload_n dX6_collectMinutes_49 1 rfl rfl ?_
        refine aw_getr fl_X6_11 (by decide) fg_X6_0 hb0 er3 rfl dX6_collectMinutes_50 ?_
        refine aw_iload_n dX6_collectMinutes_53 3 rfl rfl ?_
        refine aw_aaldq kr3 er4 dX6_collectMinutes_54 ?_
        obtain ⟨r10, er10, hF⟩ := qbind hF
        have kr10 : qok R r10 9 := hW.get kr4 er10 rfl
        refine aw_getr fl_X6_91 (by decide) fg_X5_4 kr4 er10 rfl dX6_collectMinutes_55 ?_
        refine aw_iload_n dX6_collectMinutes_58 0 rfl rfl ?_
        obtain ⟨x11, ex11, hF⟩ := qbind hF
        refine aw_ialdq kr10 ex11 dX6_collectMinutes_59 ?_
        obtain ⟨y12, ey12, hF⟩ := qbind hF
        refine aw_callVv (As := [.int x11]) (sX6_insertMinute hW hb0 ey12) cl_X6_154 rfl (qroomL (by decide) (by decide)) rfl hb0 (Nat.le_of_ble_eq_true rfl) dX6_collectMinutes_60 rfl ?_
        refine aw_iinc (q := 3) (v := (v2 + 1)) (lv' := [(2, .int (v2 + 1)), (3, .int x6), (0, .ref (G.1 + b0)), (1, .int v1)]) dX6_collectMinutes_63 rfl rfl (Nat.le_of_ble_eq_true rfl) rfl ?_
        refine aw_goto (tgt := 7) dX6_collectMinutes_66 (by decide) ?_
        cases hF
        exact aw_sub [2, 3, 0] rfl (hc ((v2 + 1), y12) rfl)
def fX6_collectMinutes (N : Nat) (R : qR) (I : qI) (a0 : Nat) (p1 : Int32) : Option (qI) :=
  qlet (qup I a0 13 (0 : Int32)) fun I1 =>
  (qloop (fun s => cX6_collectMinutes_7 N R a0 p1 s.1 s.2) N ((0 : Int32), I1)).bind fun o13 =>
  some o13
set_option maxHeartbeats 4000000 in
set_option maxRecDepth 100000 in
theorem sX6_collectMinutes {l : Launch} {G : qG} {N : Nat} {R : qR} {I : qI} {a0 : Nat} {p1 : Int32} {rI : qI} (hW : qWT R) (ha0 : qok R a0 6) (hF : fX6_collectMinutes N R I a0 p1 = some rI) : qMt l G mX6_collectMinutes 2 [.ref (G.1 + a0), .int p1] I R (none) rI R := by
  unfold fX6_collectMinutes at hF
  refine qMt_of (by decide) (Nat.le_of_ble_eq_true rfl) ⟨Nat.le_refl _, Nat.le_refl _⟩ ?_
  show AW _ 0 [(0, .ref (G.1 + a0)), (1, .int p1)] [] I R
  refine aw_aload_n dX6_collectMinutes_0 0 rfl rfl ?_
  refine aw_iconst (v := (0 : Int32)) dX6_collectMinutes_1 (by decide) ?_
  obtain ⟨I1, eI1, hF⟩ := qletE hF
  refine aw_putiq fl_X6_85 (by decide) fs_X6_13 fn_X6_13 ft_X6_13 ha0 eI1 rfl dX6_collectMinutes_2 ?_
  refine aw_iconst (v := (0 : Int32)) dX6_collectMinutes_5 (by decide) ?_
  refine aw_istore_n (lv' := [(2, .int (0 : Int32)), (0, .ref (G.1 + a0)), (1, .int p1)]) dX6_collectMinutes_6 rfl (Nat.le_of_ble_eq_true rfl) rfl ?_
  obtain ⟨o13, eo13, hF⟩ := qbind hF
  refine aw_sub [1, 2, 0] rfl (tX6_collectMinutes_7 hW ha0 (o := o13) ?_ N ((0 : Int32), I1) eo13)
  show AW _ 69 [] [] o13 R
  cases hF
  exact aw_vret rfl dX6_collectMinutes_69 rfl rfl rfl
def cX6_findDepartures_21 (N : Nat) (R : qR) (b0 : Nat) (v1 : Int32) (v2 : Int32) (v3 : Int32) (v4 : Int32) (I : qI) : Option ((Int32 × Int32 × qI) ⊕ (qI)) :=
  if v4 < 0 then
    (some (.inr I))
  else
    ((R.1 b0 12).bind fun r4 =>
    (qrd I R r4 v4).bind fun x5 =>
    (fX6_soonestAt N R I b0 v1 v2 x5).bind fun y6 =>
    if v3 ≤ y6.1 then
      (some (.inl (v3, (v4 + (-1)), y6.2)))
    else
      ((R.1 b0 14).bind fun r8 =>
      (qrd y6.2 R r4 v4).bind fun x9 =>
      (qwr y6.2 R r8 (y6.2 b0 15) x9).bind fun I10 =>
      qlet (qup I10 b0 15 ((I10 b0 15) + (1 : Int32))) fun I11 =>
      some (.inl (y6.1, (v4 + (-1)), I11))))
set_option maxHeartbeats 4000000 in
set_option maxRecDepth 100000 in
theorem tX6_findDepartures_21 {l : Launch} {G : qG} {N : Nat} {R : qR} {As : List Value} {rv : Option Value} {I1 : qI} {b0 : Nat} {v1 : Int32} {v2 : Int32} (hW : qWT R) (hb0 : qok R b0 6) {o : qI} (hx : AW (Zm l G mX6_findDepartures 3 As R rv I1 R) 82 [(0, .ref (G.1 + b0))] [] o R) : ∀ n s, qloop (fun s => cX6_findDepartures_21 N R b0 v1 v2 s.1 s.2.1 s.2.2) n s = some o → (match s with | (v3, v4, I) => AW (Zm l G mX6_findDepartures 3 As R rv I1 R) 21 [(0, .ref (G.1 + b0)), (1, .int v1), (2, .int v2), (3, .int v3), (4, .int v4)] [] I R) := by
  apply qloop_ind
  intro s x hF hc he
  obtain ⟨v3, v4, I⟩ := s
  change cX6_findDepartures_21 N R b0 v1 v2 v3 v4 I = some x at hF
  unfold cX6_findDepartures_21 at hF
  show AW _ 21 [(0, .ref (G.1 + b0)), (1, .int v1), (2, .int v2), (3, .int v3), (4, .int v4)] [] I R
  refine aw_iload dX6_findDepartures_21 4 rfl ?_
  refine aw_if_lt (tgt := 82) dX6_findDepartures_23 (by decide) (fun c3 => ?_) (fun c3 => ?_)
  · rw [if_pos c3] at hF
    cases hF
    have hE := he _ rfl
    subst hE
    exact aw_sub [0] rfl hx
  · rw [if_neg c3] at hF
    refine aw_aload_n dX6_findDepartures_26 0 rfl rfl ?_
    refine aw_iload_n dX6_findDepartures_27 1 rfl rfl ?_
    refine aw_iload_n dX6_findDepartures_28 2 rfl rfl ?_
    refine aw_aload_n dX6_findDepartures_29 0 rfl rfl ?_
    obtain ⟨r4, er4, hF⟩ := qbind hF
    have kr4 : qok R r4 9 := hW.get hb0 er4 rfl
    refine aw_getr fl_X6_36 (by decide) fg_X6_12 hb0 er4 rfl dX6_findDepartures_30 ?_
    refine aw_iload dX6_findDepartures_33 4 rfl ?_
    obtain ⟨x5, ex5, hF⟩ := qbind hF
    refine aw_ialdq kr4 ex5 dX6_findDepartures_35 ?_
    obtain ⟨y6, ey6, hF⟩ := qbind hF
    refine aw_callVi (As := [.int v1, .int v2, .int x5]) (sX6_soonestAt hW hb0 ey6) cl_X6_52 rfl (qroomL (by decide) (by decide)) rfl hb0 (Nat.le_of_ble_eq_true rfl) dX6_findDepartures_36 rfl ?_
    refine aw_istore (lv' := [(5, .int y6.1), (0, .ref (G.1 + b0)), (1, .int v1), (2, .int v2), (3, .int v3), (4, .int v4)]) dX6_findDepartures_39 (Nat.le_of_ble_eq_true rfl) rfl ?_
    refine aw_iload dX6_findDepartures_41 0 rfl ?_
    refine aw_iload_n dX6_findDepartures_43 4 rfl rfl ?_
    refine aw_icmp_ge (tgt := 76) dX6_findDepartures_44 (by decide) (fun c7 => ?_) (fun c7 => ?_)
    · rw [if_pos c7] at hF
      refine aw_iinc (q := 5) (v := (v4 + (-1))) (lv' := [(4, .int (v4 + (-1))), (5, .int y6.1), (0, .ref (G.1 + b0)), (1, .int v1), (2, .int v2), (3, .int v3)]) dX6_findDepartures_76 rfl rfl (Nat.le_of_ble_eq_true rfl) rfl ?_
      refine aw_goto (tgt := 21) dX6_findDepartures_79 (by decide) ?_
      cases hF
      exact aw_sub [2, 3, 4, 5, 0] rfl (hc (v3, (v4 + (-1)), y6.2) rfl)
    · rw [if_neg c7] at hF
      refine aw_aload_n dX6_findDepartures_47 1 rfl rfl ?_
      obtain ⟨r8, er8, hF⟩ := qbind hF
      have kr8 : qok R r8 9 := hW.get hb0 er8 rfl
      refine aw_getr fl_X6_39 (by decide) fg_X6_14 hb0 er8 rfl dX6_findDepartures_48 ?_
      refine aw_aload_n dX6_findDepartures_51 1 rfl rfl ?_
      refine aw_geti fl_X6_82 (by decide) fg_X6_15 hb0 rfl dX6_findDepartures_52 ?_
      refine aw_aload_n dX6_findDepartures_55 1 rfl rfl ?_
      refine aw_getr fl_X6_36 (by decide) fg_X6_12 hb0 er4 rfl dX6_findDepartures_56 ?_
      refine aw_iload dX6_findDepartures_59 5 rfl ?_
      obtain ⟨x9, ex9, hF⟩ := qbind hF
      refine aw_ialdq kr4 ex9 dX6_findDepartures_61 ?_
      obtain ⟨I10, eI10, hF⟩ := qbind hF
      refine aw_iastq kr8 eI10 dX6_findDepartures_62 ?_
      refine aw_aload_n dX6_findDepartures_63 1 rfl rfl ?_
      refine aw_dup dX6_findDepartures_64 rfl ?_
      refine aw_geti fl_X6_82 (by decide) fg_X6_15 hb0 rfl dX6_findDepartures_65 ?_
      refine aw_iconst (v := (1 : Int32)) dX6_findDepartures_68 (by decide) ?_
      refine aw_iadd dX6_findDepartures_69 ?_
      obtain ⟨I11, eI11, hF⟩ := qletE hF
      refine aw_putiq fl_X6_82 (by decide) fs_X6_15 fn_X6_15 ft_X6_15 hb0 eI11 rfl dX6_findDepartures_70 ?_
      refine aw_iload dX6_findDepartures_73 0 rfl ?_
      refine aw_istore_n (lv' := [(3, .int y6.1), (5, .int y6.1), (0, .ref (G.1 + b0)), (1, .int v1), (2, .int v2), (4, .int v4)]) dX6_findDepartures_75 rfl (Nat.le_of_ble_eq_true rfl) rfl ?_
      refine aw_iinc (q := 5) (v := (v4 + (-1))) (lv' := [(4, .int (v4 + (-1))), (3, .int y6.1), (5, .int y6.1), (0, .ref (G.1 + b0)), (1, .int v1), (2, .int v2)]) dX6_findDepartures_76 rfl rfl (Nat.le_of_ble_eq_true rfl) rfl ?_
      refine aw_goto (tgt := 21) dX6_findDepartures_79 (by decide) ?_
      cases hF
      exact aw_sub [3, 4, 5, 1, 0] rfl (hc (y6.1, (v4 + (-1)), I11) rfl)
def fX6_findDepartures (N : Nat) (R : qR) (I : qI) (a0 : Nat) (p1 : Int32) (p2 : Int32) : Option (Int32 × qI) :=
  (fX6_collectMinutes N R I a0 p1).bind fun y1 =>
  qlet (qup y1 a0 15 (0 : Int32)) fun I2 =>
  (qloop (fun s => cX6_findDepartures_21 N R a0 p1 p2 s.1 s.2.1 s.2.2) N ((1000000 : Int32), ((I2 a0 13) - (1 : Int32)), I2)).bind fun o12 =>
  some ((o12 a0 15), o12)
set_option maxHeartbeats 4000000 in
set_option maxRecDepth 100000 in
theorem sX6_findDepartures {l : Launch} {G : qG} {N : Nat} {R : qR} {I : qI} {a0 : Nat} {p1 : Int32} {p2 : Int32} {rv : Int32} {rI : qI} (hW : qWT R) (ha0 : qok R a0 6) (hF : fX6_findDepartures N R I a0 p1 p2 = some (rv, rI)) : qMt l G mX6_findDepartures 3 [.ref (G.1 + a0), .int p1, .int p2] I R (some (.int rv)) rI R := by
  unfold fX6_findDepartures at hF
  refine qMt_of (by decide) (Nat.le_of_ble_eq_true rfl) ⟨Nat.le_refl _, Nat.le_refl _⟩ ?_
  show AW _ 0 [(0, .ref (G.1 + a0)), (1, .int p1), (2, .int p2)] [] I R
  refine aw_aload_n dX6_findDepartures_0 0 rfl rfl ?_
  refine aw_iload_n dX6_findDepartures_1 1 rfl rfl ?_
  obtain ⟨y1, ey1, hF⟩ := qbind hF
  refine aw_callVv (As := [.int p1]) (sX6_collectMinutes hW ha0 ey1) cl_X6_79 rfl (qroomL (by decide) (by decide)) rfl ha0 (Nat.le_of_ble_eq_true rfl) dX6_findDepartures_2 rfl ?_
  refine aw_aload_n dX6_findDepartures_5 0 rfl rfl ?_
  refine aw_iconst (v := (0 : Int32)) dX6_findDepartures_6 (by decide) ?_
  obtain ⟨I2, eI2, hF⟩ := qletE hF
  refine aw_putiq fl_X6_82 (by decide) fs_X6_15 fn_X6_15 ft_X6_15 ha0 eI2 rfl dX6_findDepartures_7 ?_
  refine aw_ldc ck_X6_59 rfl dX6_findDepartures_10 ?_
  refine aw_istore_n (lv' := [(3, .int (1000000 : Int32)), (0, .ref (G.1 + a0)), (1, .int p1), (2, .int p2)]) dX6_findDepartures_12 rfl (Nat.le_of_ble_eq_true rfl) rfl ?_
  refine aw_aload_n dX6_findDepartures_13 1 rfl rfl ?_
  refine aw_geti fl_X6_85 (by decide) fg_X6_13 ha0 rfl dX6_findDepartures_14 ?_
  refine aw_iconst (v := (1 : Int32)) dX6_findDepartures_17 (by decide) ?_
  refine aw_isub dX6_findDepartures_18 ?_
  refine aw_istore (lv' := [(4, .int ((I2 a0 13) - (1 : Int32))), (3, .int (1000000 : Int32)), (0, .ref (G.1 + a0)), (1, .int p1), (2, .int p2)]) dX6_findDepartures_19 (Nat.le_of_ble_eq_true rfl) rfl ?_
  obtain ⟨o12, eo12, hF⟩ := qbind hF
  refine aw_sub [2, 3, 4, 1, 0] rfl (tX6_findDepartures_21 hW ha0 (o := o12) ?_ N ((1000000 : Int32), ((I2 a0 13) - (1 : Int32)), I2) eo12)
  show AW _ 82 [(0, .ref (G.1 + a0))] [] o12 R
  refine aw_aload_n dX6_findDepartures_82 0 rfl rfl ?_
  refine aw_geti fl_X6_82 (by decide) fg_X6_15 ha0 rfl dX6_findDepartures_83 ?_
  cases hF
  exact aw_iret rfl dX6_findDepartures_86 rfl rfl rfl
def fX6_departureAt (R : qR) (I : qI) (a0 : Nat) (p1 : Int32) : Option (Int32) :=
  (R.1 a0 14).bind fun r1 =>
  (qrd I R r1 (((I a0 15) - (1 : Int32)) - p1)).bind fun x2 =>
  some x2
set_option maxHeartbeats 4000000 in
set_option maxRecDepth 100000 in
theorem sX6_departureAt {l : Launch} {G : qG} {R : qR} {I : qI} {a0 : Nat} {p1 : Int32} {rv : Int32} (hW : qWT R) (ha0 : qok R a0 6) (hF : fX6_departureAt R I a0 p1 = some rv) : qMt l G mX6_departureAt 1 [.ref (G.1 + a0), .int p1] I R (some (.int rv)) I R := by
  unfold fX6_departureAt at hF
  refine qMt_of (by decide) (Nat.le_of_ble_eq_true rfl) ⟨Nat.le_refl _, Nat.le_refl _⟩ ?_
  show AW _ 0 [(0, .ref (G.1 + a0)), (1, .int p1)] [] I R
  refine aw_aload_n dX6_departureAt_0 0 rfl rfl ?_
  obtain ⟨r1, er1, hF⟩ := qbind hF
  have kr1 : qok R r1 9 := hW.get ha0 er1 rfl
  refine aw_getr fl_X6_39 (by decide) fg_X6_14 ha0 er1 rfl dX6_departureAt_1 ?_
  refine aw_aload_n dX6_departureAt_4 0 rfl rfl ?_
  refine aw_geti fl_X6_82 (by decide) fg_X6_15 ha0 rfl dX6_departureAt_5 ?_
  refine aw_iconst (v := (1 : Int32)) dX6_departureAt_8 (by decide) ?_
  refine aw_isub dX6_departureAt_9 ?_
  refine aw_iload_n dX6_departureAt_10 1 rfl rfl ?_
  refine aw_isub dX6_departureAt_11 ?_
  obtain ⟨x2, ex2, hF⟩ := qbind hF
  refine aw_ialdq kr1 ex2 dX6_departureAt_12 ?_
  cases hF
  exact aw_iret rfl dX6_departureAt_13 rfl rfl rfl
def fX7_areDays (R : qR) (I : qI) (p0 : Int32) : Option (Int32) :=
  if p0 ≤ 0 then
    (some (0 : Int32))
  else
    (if (127 : Int32) < p0 then
      (some (0 : Int32))
    else
      (some (1 : Int32)))
set_option maxHeartbeats 4000000 in
set_option maxRecDepth 100000 in
theorem sX7_areDays {l : Launch} {G : qG} {R : qR} {I : qI} {p0 : Int32} {rv : Int32} (hW : qWT R)  (hF : fX7_areDays R I p0 = some rv) : qMt l G mX7_areDays 1 [.int p0] I R (some (.int rv)) I R := by
  unfold fX7_areDays at hF
  refine qMt_of (by decide) (Nat.le_of_ble_eq_true rfl) ⟨Nat.le_refl _, Nat.le_refl _⟩ ?_
  show AW _ 0 [(0, .int p0)] [] I R
  refine aw_iload_n dX7_areDays_0 0 rfl rfl ?_
  refine aw_if_le (tgt := 14) dX7_areDays_1 (by decide) (fun c1 => ?_) (fun c1 => ?_)
  · rw [if_pos c1] at hF
    refine aw_iconst (v := (0 : Int32)) dX7_areDays_14 (by decide) ?_
    cases hF
    exact aw_zret rfl (by decide) dX7_areDays_15 rfl rfl rfl
  · rw [if_neg c1] at hF
    refine aw_iload_n dX7_areDays_4 0 rfl rfl ?_
    refine aw_bipush (v := (127 : Int32)) dX7_areDays_5 (by decide) ?_
    refine aw_icmp_gt (tgt := 14) dX7_areDays_7 (by decide) (fun c2 => ?_) (fun c2 => ?_)
    · rw [if_pos c2] at hF
      refine aw_iconst (v := (0 : Int32)) dX7_areDays_14 (by decide) ?_
      cases hF
      exact aw_zret rfl (by decide) dX7_areDays_15 rfl rfl rfl
    · rw [if_neg c2] at hF
      refine aw_iconst (v := (1 : Int32)) dX7_areDays_10 (by decide) ?_
      refine aw_goto (tgt := 15) dX7_areDays_11 (by decide) ?_
      cases hF
      exact aw_zret rfl (by decide) dX7_areDays_15 rfl rfl rfl
def fX7_train (R : qR) (I : qI) (a0 : Nat) (p1 : Int32) : Option (Int32 × qI) :=
  (fX7_areDays R I p1).bind fun y1 =>
  if y1 = 0 then
    (some ((-1 : Int32), I))
  else
    (if (I a0 4) < (10 : Int32) then
      ((R.1 a0 0).bind fun r4 =>
      (qra R r4 (I a0 4)).bind fun r5 =>
      qlet (qup I r5 0 p1) fun I6 =>
      qlet (qup I6 a0 4 ((I6 a0 4) + (1 : Int32))) fun I7 =>
      some (((I7 a0 4) - (1 : Int32)), I7))
    else
      (some ((-1 : Int32), I)))
set_option maxHeartbeats 4000000 in
set_option maxRecDepth 100000 in
theorem sX7_train {l : Launch} {G : qG} {R : qR} {I : qI} {a0 : Nat} {p1 : Int32} {rv : Int32} {rI : qI} (hW : qWT R) (ha0 : qok R a0 7) (hF : fX7_train R I a0 p1 = some (rv, rI)) : qMt l G mX7_train 2 [.ref (G.1 + a0), .int p1] I R (some (.int rv)) rI R := by
  unfold fX7_train at hF
  refine qMt_of (by decide) (Nat.le_of_ble_eq_true rfl) ⟨Nat.le_refl _, Nat.le_refl _⟩ ?_
  show AW _ 0 [(0, .ref (G.1 + a0)), (1, .int p1)] [] I R
  refine aw_iload_n dX7_train_0 1 rfl rfl ?_
  obtain ⟨y1, ey1, hF⟩ := qbind hF
  refine aw_callSi (sX7_areDays hW  ey1) cl_X7_41 rfl (qroomL (by decide) (by decide)) rfl (Nat.le_of_ble_eq_true rfl) dX7_train_1 rfl ?_
  refine aw_if_eq (tgt := 16) dX7_train_4 (by decide) (fun c2 => ?_) (fun c2 => ?_)
  · rw [if_pos c2] at hF
    refine aw_iconst (v := (-1 : Int32)) dX7_train_16 (by decide) ?_
    cases hF
    exact aw_iret rfl dX7_train_17 rfl rfl rfl
  · rw [if_neg c2] at hF
    refine aw_aload_n dX7_train_7 0 rfl rfl ?_
    refine aw_geti fl_X7_45 (by decide) fg_X7_4 ha0 rfl dX7_train_8 ?_
    refine aw_bipush (v := (10 : Int32)) dX7_train_11 (by decide) ?_
    refine aw_icmp_lt (tgt := 18) dX7_train_13 (by decide) (fun c3 => ?_) (fun c3 => ?_)
    · rw [if_pos c3] at hF
      refine aw_aload_n dX7_train_18 0 rfl rfl ?_
      obtain ⟨r4, er4, hF⟩ := qbind hF
      have kr4 : qok R r4 11 := hW.get ha0 er4 rfl
      refine aw_getr fl_X7_11 (by decide) fg_X7_0 ha0 er4 rfl dX7_train_19 ?_
      refine aw_aload_n dX7_train_22 0 rfl rfl ?_
      refine aw_geti fl_X7_45 (by decide) fg_X7_4 ha0 rfl dX7_train_23 ?_
      obtain ⟨r5, er5, hF⟩ := qbind hF
      have kr5 : qok R r5 5 := hW.elem kr4 er5
      refine aw_aaldq kr4 er5 dX7_train_26 ?_
      refine aw_iload_n dX7_train_27 1 rfl rfl ?_
      obtain ⟨I6, eI6, hF⟩ := qletE hF
      refine aw_putiq fl_X7_48 (by decide) fs_X5_0 fn_X5_0 ft_X5_0 kr5 eI6 rfl dX7_train_28 ?_
      refine aw_aload_n dX7_train_31 0 rfl rfl ?_
      refine aw_dup dX7_train_32 rfl ?_
      refine aw_geti fl_X7_45 (by decide) fg_X7_4 ha0 rfl dX7_train_33 ?_
      refine aw_iconst (v := (1 : Int32)) dX7_train_36 (by decide) ?_
      refine aw_iadd dX7_train_37 ?_
      obtain ⟨I7, eI7, hF⟩ := qletE hF
      refine aw_putiq fl_X7_45 (by decide) fs_X7_4 fn_X7_4 ft_X7_4 ha0 eI7 rfl dX7_train_38 ?_
      refine aw_aload_n dX7_train_41 0 rfl rfl ?_
      refine aw_geti fl_X7_45 (by decide) fg_X7_4 ha0 rfl dX7_train_42 ?_
      refine aw_iconst (v := (1 : Int32)) dX7_train_45 (by decide) ?_
      refine aw_isub dX7_train_46 ?_
      cases hF
      exact aw_iret rfl dX7_train_47 rfl rfl rfl
    · rw [if_neg c3] at hF
      refine aw_iconst (v := (-1 : Int32)) dX7_train_16 (by decide) ?_
      cases hF
      exact aw_iret rfl dX7_train_17 rfl rfl rfl
def fX7_isStation (R : qR) (I : qI) (p0 : Int32) : Option (Int32) :=
  if p0 < 0 then
    (some (0 : Int32))
  else
    (if (12 : Int32) ≤ p0 then
      (some (0 : Int32))
    else
      (some (1 : Int32)))
set_option maxHeartbeats 4000000 in
set_option maxRecDepth 100000 in
theorem sX7_isStation {l : Launch} {G : qG} {R : qR} {I : qI} {p0 : Int32} {rv : Int32} (hW : qWT R)  (hF : fX7_isStation R I p0 = some rv) : qMt l G mX7_isStation 1 [.int p0] I R (some (.int rv)) I R := by
  unfold fX7_isStation at hF
  refine qMt_of (by decide) (Nat.le_of_ble_eq_true rfl) ⟨Nat.le_refl _, Nat.le_refl _⟩ ?_
  show AW _ 0 [(0, .int p0)] [] I R
  refine aw_iload_n dX7_isStation_0 0 rfl rfl ?_
  refine aw_if_lt (tgt := 14) dX7_isStation_1 (by decide) (fun c1 => ?_) (fun c1 => ?_)
  · rw [if_pos c1] at hF
    refine aw_iconst (v := (0 : Int32)) dX7_isStation_14 (by decide) ?_
    cases hF
    exact aw_zret rfl (by decide) dX7_isStation_15 rfl rfl rfl
  · rw [if_neg c1] at hF
    refine aw_iload_n dX7_isStation_4 0 rfl rfl ?_
    refine aw_bipush (v := (12 : Int32)) dX7_isStation_5 (by decide) ?_
    refine aw_icmp_ge (tgt := 14) dX7_isStation_7 (by decide) (fun c2 => ?_) (fun c2 => ?_)
    · rw [if_pos c2] at hF
      refine aw_iconst (v := (0 : Int32)) dX7_isStation_14 (by decide) ?_
      cases hF
      exact aw_zret rfl (by decide) dX7_isStation_15 rfl rfl rfl
    · rw [if_neg c2] at hF
      refine aw_iconst (v := (1 : Int32)) dX7_isStation_10 (by decide) ?_
      refine aw_goto (tgt := 15) dX7_isStation_11 (by decide) ?_
      cases hF
      exact aw_zret rfl (by decide) dX7_isStation_15 rfl rfl rfl
def fX7_trainOf (R : qR) (I : qI) (a0 : Nat) (p1 : Int32) : Option (Option Nat) :=
  if p1 < 0 then
    (some (none))
  else
    (if (I a0 4) ≤ p1 then
      (some (none))
    else
      ((R.1 a0 0).bind fun r3 =>
      (qra R r3 p1).bind fun r4 =>
      some (some r4)))
set_option maxHeartbeats 4000000 in
set_option maxRecDepth 100000 in
theorem sX7_trainOf {l : Launch} {G : qG} {R : qR} {I : qI} {a0 : Nat} {p1 : Int32} {rv : Option Nat} (hW : qWT R) (ha0 : qok R a0 7) (hF : fX7_trainOf R I a0 p1 = some rv) : qMt l G mX7_trainOf 1 [.ref (G.1 + a0), .int p1] I R (some (qrv G rv)) I R := by
  unfold fX7_trainOf at hF
  refine qMt_of (by decide) (Nat.le_of_ble_eq_true rfl) ⟨Nat.le_refl _, Nat.le_refl _⟩ ?_
  show AW _ 0 [(0, .ref (G.1 + a0)), (1, .int p1)] [] I R
  refine aw_iload_n dX7_trainOf_0 1 rfl rfl ?_
  refine aw_if_lt (tgt := 21) dX7_trainOf_1 (by decide) (fun c1 => ?_) (fun c1 => ?_)
  · rw [if_pos c1] at hF
    refine aw_null dX7_trainOf_21 ?_
    cases hF
    exact aw_aret rfl (Or.inl rfl) dX7_trainOf_22 rfl rfl rfl
  · rw [if_neg c1] at hF
    refine aw_iload_n dX7_trainOf_4 1 rfl rfl ?_
    refine aw_aload_n dX7_trainOf_5 0 rfl rfl ?_
    refine aw_geti fl_X7_45 (by decide) fg_X7_4 ha0 rfl dX7_trainOf_6 ?_
    refine aw_icmp_ge (tgt := 21) dX7_trainOf_9 (by decide) (fun c2 => ?_) (fun c2 => ?_)
    · rw [if_pos c2] at hF
      refine aw_null dX7_trainOf_21 ?_
      cases hF
      exact aw_aret rfl (Or.inl rfl) dX7_trainOf_22 rfl rfl rfl
    · rw [if_neg c2] at hF
      refine aw_aload_n dX7_trainOf_12 0 rfl rfl ?_
      obtain ⟨r3, er3, hF⟩ := qbind hF
      have kr3 : qok R r3 11 := hW.get ha0 er3 rfl
      refine aw_getr fl_X7_11 (by decide) fg_X7_0 ha0 er3 rfl dX7_trainOf_13 ?_
      refine aw_iload_n dX7_trainOf_16 1 rfl rfl ?_
      obtain ⟨r4, er4, hF⟩ := qbind hF
      have kr4 : qok R r4 5 := hW.elem kr3 er4
      refine aw_aaldq kr3 er4 dX7_trainOf_17 ?_
      refine aw_goto (tgt := 22) dX7_trainOf_18 (by decide) ?_
      cases hF
      exact aw_aret rfl (Or.inr ⟨_, rfl⟩) dX7_trainOf_22 rfl rfl rfl
theorem kX7_trainOf {R : qR} {I : qI} {a0 : Nat} {p1 : Int32} {q : Nat} (hW : qWT R) (ha0 : qok R a0 7) (h : fX7_trainOf R I a0 p1 = some (some q)) : qok R q 5 := by
  unfold fX7_trainOf at h
  split at h
  · cases h
  · split at h
    · cases h
    · obtain ⟨r, e, h⟩ := qbind h
      obtain ⟨r2, e2, h⟩ := qbind h
      cases h
      exact hW.elem (hW.get ha0 e rfl) e2

def fX7_stop (R : qR) (I : qI) (a0 : Nat) (p1 : Int32) (p2 : Int32) (p3 : Int32) (p4 : Int32) : Option (Int32 × qI) :=
  (fX7_trainOf R I a0 p1).bind fun y1 =>
  qopt y1
    (some ((-1 : Int32), I))
    (fun q2 =>
    (fX7_isStation R I p2).bind fun y3 =>
    if y3 = 0 then
      (some ((-1 : Int32), I))
    else
      ((fX5_takes R I q2 p2 p3 p4).bind fun y5 =>
      if y5 = 0 then
        (some ((-1 : Int32), I))
      else
        ((fX5_add R I q2 p2 p3 p4).bind fun y7 =>
        some ((y7 q2 1), y7))))
set_option maxHeartbeats 4000000 in
set_option maxRecDepth 100000 in
theorem sX7_stop {l : Launch} {G : qG} {R : qR} {I : qI} {a0 : Nat} {p1 : Int32} {p2 : Int32} {p3 : Int32} {p4 : Int32} {rv : Int32} {rI : qI} (hW : qWT R) (ha0 : qok R a0 7) (hF : fX7_stop R I a0 p1 p2 p3 p4 = some (rv, rI)) : qMt l G mX7_stop 2 [.ref (G.1 + a0), .int p1, .int p2, .int p3, .int p4] I R (some (.int rv)) rI R := by
  unfold fX7_stop at hF
  refine qMt_of (by decide) (Nat.le_of_ble_eq_true rfl) ⟨Nat.le_refl _, Nat.le_refl _⟩ ?_
  show AW _ 0 [(0, .ref (G.1 + a0)), (1, .int p1), (2, .int p2), (3, .int p3), (4, .int p4)] [] I R
  refine aw_aload_n dX7_stop_0 0 rfl rfl ?_
  refine aw_iload_n dX7_stop_1 1 rfl rfl ?_
  obtain ⟨y1, ey1, hF⟩ := qbind hF
  cases y1 with
  | none =>
    replace hF := qoptn hF
    refine aw_callVr (As := [.int p1]) (sX7_trainOf hW ha0 ey1) cl_X7_51 rfl (qroomL (by decide) (by decide)) rfl ha0 (Nat.le_of_ble_eq_true rfl) dX7_stop_2 rfl ?_
    refine aw_astoreN (lv' := [(5, .null), (0, .ref (G.1 + a0)), (1, .int p1), (2, .int p2), (3, .int p3), (4, .int p4)]) dX7_stop_5 (Nat.le_of_ble_eq_true rfl) rfl ?_
    refine aw_aloadN dX7_stop_7 0 rfl ?_
    refine aw_ifnullN (tgt := 31) dX7_stop_9 (by decide) ?_
    refine aw_iconst (v := (-1 : Int32)) dX7_stop_31 (by decide) ?_
    cases hF
    exact aw_iret rfl dX7_stop_32 rfl rfl rfl
  | some q2 =>
    replace hF := qopts hF
    have kq2 : qok R q2 5 := kX7_trainOf hW ha0 ey1
    refine aw_callVr (As := [.int p1]) (sX7_trainOf hW ha0 ey1) cl_X7_51 rfl (qroomL (by decide) (by decide)) rfl ha0 (Nat.le_of_ble_eq_true rfl) dX7_stop_2 rfl ?_
    refine aw_astore (lv' := [(5, .ref (G.1 + q2)), (0, .ref (G.1 + a0)), (1, .int p1), (2, .int p2), (3, .int p3), (4, .int p4)]) dX7_stop_5 (Nat.le_of_ble_eq_true rfl) rfl ?_
    refine aw_aload dX7_stop_7 0 rfl ?_
    refine aw_ifnull dX7_stop_9 ?_
    refine aw_iload_n dX7_stop_12 3 rfl rfl ?_
    obtain ⟨y3, ey3, hF⟩ := qbind hF
    refine aw_callSi (sX7_isStation hW  ey3) cl_X7_55 rfl (qroomL (by decide) (by decide)) rfl (Nat.le_of_ble_eq_true rfl) dX7_stop_13 rfl ?_
    refine aw_if_eq (tgt := 31) dX7_stop_16 (by decide) (fun c4 => ?_) (fun c4 => ?_)
    · rw [if_pos c4] at hF
      refine aw_iconst (v := (-1 : Int32)) dX7_stop_31 (by decide) ?_
      cases hF
      exact aw_iret rfl dX7_stop_32 rfl rfl rfl
    · rw [if_neg c4] at hF
      refine aw_aload dX7_stop_19 0 rfl ?_
      refine aw_iload_n dX7_stop_21 3 rfl rfl ?_
      refine aw_iload_n dX7_stop_22 4 rfl rfl ?_
      refine aw_iload dX7_stop_23 5 rfl ?_
      obtain ⟨y5, ey5, hF⟩ := qbind hF
      refine aw_callVi (As := [.int p2, .int p3, .int p4]) (sX5_takes hW kq2 ey5) cl_X7_58 rfl (qroomL (by decide) (by decide)) rfl kq2 (Nat.le_of_ble_eq_true rfl) dX7_stop_25 rfl ?_
      refine aw_if_ne (tgt := 33) dX7_stop_28 (by decide) (fun c6 => ?_) (fun c6 => ?_)
      · rw [if_neg c6] at hF
        refine aw_aload dX7_stop_33 0 rfl ?_
        refine aw_iload_n dX7_stop_35 3 rfl rfl ?_
        refine aw_iload_n dX7_stop_36 4 rfl rfl ?_
        refine aw_iload dX7_stop_37 5 rfl ?_
        obtain ⟨y7, ey7, hF⟩ := qbind hF
        refine aw_callVv (As := [.int p2, .int p3, .int p4]) (sX5_add hW kq2 ey7) cl_X7_62 rfl (qroomL (by decide) (by decide)) rfl kq2 (Nat.le_of_ble_eq_true rfl) dX7_stop_39 rfl ?_
        refine aw_aload dX7_stop_42 0 rfl ?_
        refine aw_geti fl_X7_66 (by decide) fg_X5_1 kq2 rfl dX7_stop_44 ?_
        cases hF
        exact aw_iret rfl dX7_stop_47 rfl rfl rfl
      · rw [if_pos c6] at hF
        refine aw_iconst (v := (-1 : Int32)) dX7_stop_31 (by decide) ?_
        cases hF
        exact aw_iret rfl dX7_stop_32 rfl rfl rfl
