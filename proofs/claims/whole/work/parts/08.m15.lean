def fX8_isMinute (R : qR) (I : qI) (a0 : Nat) (p1 : Int32) : Option (Int32) :=
  if p1 < 0 then
    (some (0 : Int32))
  else
    (if (1440 : Int32) ≤ p1 then
      (some (0 : Int32))
    else
      (some (1 : Int32)))
set_option maxHeartbeats 4000000 in
set_option maxRecDepth 100000 in
theorem sX8_isMinute {l : Launch} {G : qG} {R : qR} {I : qI} {a0 : Nat} {p1 : Int32} {rv : Int32} (hW : qWT R) (ha0 : qok R a0 8) (hF : fX8_isMinute R I a0 p1 = some rv) : qMt l G mX8_isMinute 1 [.ref (G.1 + a0), .int p1] I R (some (.int rv)) I R := by
  unfold fX8_isMinute at hF
  refine qMt_of (by decide) (Nat.le_of_ble_eq_true rfl) ⟨Nat.le_refl _, Nat.le_refl _⟩ ?_
  show AW _ 0 [(0, .ref (G.1 + a0)), (1, .int p1)] [] I R
  refine aw_iload_n dX8_isMinute_0 1 rfl rfl ?_
  refine aw_if_lt (tgt := 15) dX8_isMinute_1 (by decide) (fun c1 => ?_) (fun c1 => ?_)
  · rw [if_pos c1] at hF
    refine aw_iconst (v := (0 : Int32)) dX8_isMinute_15 (by decide) ?_
    cases hF
    exact aw_zret rfl (by decide) dX8_isMinute_16 rfl rfl rfl
  · rw [if_neg c1] at hF
    refine aw_iload_n dX8_isMinute_4 1 rfl rfl ?_
    refine aw_sipush (v := (1440 : Int32)) dX8_isMinute_5 (by decide) ?_
    refine aw_icmp_ge (tgt := 15) dX8_isMinute_8 (by decide) (fun c2 => ?_) (fun c2 => ?_)
    · rw [if_pos c2] at hF
      refine aw_iconst (v := (0 : Int32)) dX8_isMinute_15 (by decide) ?_
      cases hF
      exact aw_zret rfl (by decide) dX8_isMinute_16 rfl rfl rfl
    · rw [if_neg c2] at hF
      refine aw_iconst (v := (1 : Int32)) dX8_isMinute_11 (by decide) ?_
      refine aw_goto (tgt := 16) dX8_isMinute_12 (by decide) ?_
      cases hF
      exact aw_zret rfl (by decide) dX8_isMinute_16 rfl rfl rfl
def fX8_isDays (R : qR) (I : qI) (a0 : Nat) (p1 : Int32) : Option (Int32) :=
  if p1 < (1 : Int32) then
    (some (0 : Int32))
  else
    (if (127 : Int32) < p1 then
      (some (0 : Int32))
    else
      (some (1 : Int32)))
set_option maxHeartbeats 4000000 in
set_option maxRecDepth 100000 in
theorem sX8_isDays {l : Launch} {G : qG} {R : qR} {I : qI} {a0 : Nat} {p1 : Int32} {rv : Int32} (hW : qWT R) (ha0 : qok R a0 8) (hF : fX8_isDays R I a0 p1 = some rv) : qMt l G mX8_isDays 1 [.ref (G.1 + a0), .int p1] I R (some (.int rv)) I R := by
  unfold fX8_isDays at hF
  refine qMt_of (by decide) (Nat.le_of_ble_eq_true rfl) ⟨Nat.le_refl _, Nat.le_refl _⟩ ?_
  show AW _ 0 [(0, .ref (G.1 + a0)), (1, .int p1)] [] I R
  refine aw_iload_n dX8_isDays_0 1 rfl rfl ?_
  refine aw_iconst (v := (1 : Int32)) dX8_isDays_1 (by decide) ?_
  refine aw_icmp_lt (tgt := 15) dX8_isDays_2 (by decide) (fun c1 => ?_) (fun c1 => ?_)
  · rw [if_pos c1] at hF
    refine aw_iconst (v := (0 : Int32)) dX8_isDays_15 (by decide) ?_
    cases hF
    exact aw_zret rfl (by decide) dX8_isDays_16 rfl rfl rfl
  · rw [if_neg c1] at hF
    refine aw_iload_n dX8_isDays_5 1 rfl rfl ?_
    refine aw_bipush (v := (127 : Int32)) dX8_isDays_6 (by decide) ?_
    refine aw_icmp_gt (tgt := 15) dX8_isDays_8 (by decide) (fun c2 => ?_) (fun c2 => ?_)
    · rw [if_pos c2] at hF
      refine aw_iconst (v := (0 : Int32)) dX8_isDays_15 (by decide) ?_
      cases hF
      exact aw_zret rfl (by decide) dX8_isDays_16 rfl rfl rfl
    · rw [if_neg c2] at hF
      refine aw_iconst (v := (1 : Int32)) dX8_isDays_11 (by decide) ?_
      refine aw_goto (tgt := 16) dX8_isDays_12 (by decide) ?_
      cases hF
      exact aw_zret rfl (by decide) dX8_isDays_16 rfl rfl rfl
def fX8_train (R : qR) (I : qI) (a0 : Nat) (p1 : Int32) : Option (Int32 × qI) :=
  qlet (qup I a0 0 (0 : Int32)) fun I1 =>
  (fX8_isDays R I1 a0 p1).bind fun y2 =>
  if y2 = 0 then
    (some ((-1 : Int32), I1))
  else
    (if (I1 a0 1) = (10 : Int32) then
      (some ((-1 : Int32), I1))
    else
      ((R.1 a0 3).bind fun r5 =>
      (qwr I1 R r5 (I1 a0 1) p1).bind fun I6 =>
      qlet (qup I6 a0 1 ((I6 a0 1) + (1 : Int32))) fun I7 =>
      some (((I7 a0 1) - (1 : Int32)), I7)))
set_option maxHeartbeats 4000000 in
set_option maxRecDepth 100000 in
theorem sX8_train {l : Launch} {G : qG} {R : qR} {I : qI} {a0 : Nat} {p1 : Int32} {rv : Int32} {rI : qI} (hW : qWT R) (ha0 : qok R a0 8) (hF : fX8_train R I a0 p1 = some (rv, rI)) : qMt l G mX8_train 2 [.ref (G.1 + a0), .int p1] I R (some (.int rv)) rI R := by
  unfold fX8_train at hF
  refine qMt_of (by decide) (Nat.le_of_ble_eq_true rfl) ⟨Nat.le_refl _, Nat.le_refl _⟩ ?_
  show AW _ 0 [(0, .ref (G.1 + a0)), (1, .int p1)] [] I R
  refine aw_aload_n dX8_train_0 0 rfl rfl ?_
  refine aw_iconst (v := (0 : Int32)) dX8_train_1 (by decide) ?_
  obtain ⟨I1, eI1, hF⟩ := qletE hF
  refine aw_putiq fl_X8_94 (by decide) fs_X8_0 fn_X8_0 ft_X8_0 ha0 eI1 rfl dX8_train_2 ?_
  refine aw_aload_n dX8_train_5 0 rfl rfl ?_
  refine aw_iload_n dX8_train_6 1 rfl rfl ?_
  obtain ⟨y2, ey2, hF⟩ := qbind hF
  refine aw_callVi (As := [.int p1]) (sX8_isDays hW ha0 ey2) cl_X8_100 rfl (qroomL (by decide) (by decide)) rfl ha0 (Nat.le_of_ble_eq_true rfl) dX8_train_7 rfl ?_
  refine aw_if_eq (tgt := 22) dX8_train_10 (by decide) (fun c3 => ?_) (fun c3 => ?_)
  · rw [if_pos c3] at hF
    refine aw_iconst (v := (-1 : Int32)) dX8_train_22 (by decide) ?_
    cases hF
    exact aw_iret rfl dX8_train_23 rfl rfl rfl
  · rw [if_neg c3] at hF
    refine aw_aload_n dX8_train_13 0 rfl rfl ?_
    refine aw_geti fl_X8_97 (by decide) fg_X8_1 ha0 rfl dX8_train_14 ?_
    refine aw_bipush (v := (10 : Int32)) dX8_train_17 (by decide) ?_
    refine aw_icmp_ne (tgt := 24) dX8_train_19 (by decide) (fun c4 => ?_) (fun c4 => ?_)
    · rw [if_neg c4] at hF
      refine aw_aload_n dX8_train_24 0 rfl rfl ?_
      obtain ⟨r5, er5, hF⟩ := qbind hF
      have kr5 : qok R r5 9 := hW.get ha0 er5 rfl
      refine aw_getr fl_X8_13 (by decide) fg_X8_3 ha0 er5 rfl dX8_train_25 ?_
      refine aw_aload_n dX8_train_28 0 rfl rfl ?_
      refine aw_geti fl_X8_97 (by decide) fg_X8_1 ha0 rfl dX8_train_29 ?_
      refine aw_iload_n dX8_train_32 1 rfl rfl ?_
      obtain ⟨I6, eI6, hF⟩ := qbind hF
      refine aw_iastq kr5 eI6 dX8_train_33 ?_
      refine aw_aload_n dX8_train_34 0 rfl rfl ?_
      refine aw_aload_n dX8_train_35 0 rfl rfl ?_
      refine aw_geti fl_X8_97 (by decide) fg_X8_1 ha0 rfl dX8_train_36 ?_
      refine aw_iconst (v := (1 : Int32)) dX8_train_39 (by decide) ?_
      refine aw_iadd dX8_train_40 ?_
      obtain ⟨I7, eI7, hF⟩ := qletE hF
      refine aw_putiq fl_X8_97 (by decide) fs_X8_1 fn_X8_1 ft_X8_1 ha0 eI7 rfl dX8_train_41 ?_
      refine aw_aload_n dX8_train_44 0 rfl rfl ?_
      refine aw_geti fl_X8_97 (by decide) fg_X8_1 ha0 rfl dX8_train_45 ?_
      refine aw_iconst (v := (1 : Int32)) dX8_train_48 (by decide) ?_
      refine aw_isub dX8_train_49 ?_
      cases hF
      exact aw_iret rfl dX8_train_50 rfl rfl rfl
    · rw [if_pos c4] at hF
      refine aw_iconst (v := (-1 : Int32)) dX8_train_22 (by decide) ?_
      cases hF
      exact aw_iret rfl dX8_train_23 rfl rfl rfl
def cX8_stopAt_2 (N : Nat) (R : qR) (I : qI) (b0 : Nat) (v1 : Int32) (v2 : Int32) (v3 : Int32) : Option ((Int32) ⊕ ((Unit) ⊕ (Int32))) :=
  (R.1 b0 4).bind fun r1 =>
  (qrd I R r1 v1).bind fun x2 =>
  if x2 ≤ v3 then
    (some (.inr (.inl ())))
  else
    ((R.1 b0 5).bind fun r4 =>
    (qrd I R r4 (((7 : Int32) * v1) + v3)).bind fun x5 =>
    if x5 = v2 then
      (some (.inr (.inr v3)))
    else
      (some (.inl (v3 + 1))))
set_option maxHeartbeats 4000000 in
set_option maxRecDepth 100000 in
theorem tX8_stopAt_2 {l : Launch} {G : qG} {N : Nat} {R : qR} {I : qI} {As : List Value} {rv : Option Value} {b0 : Nat} {v1 : Int32} {v2 : Int32} (hW : qWT R) (hb0 : qok R b0 8) {o : (Unit) ⊕ (Int32)} (hx : match o with | .inl _ => AW (Zm l G mX8_stopAt 1 As R rv I R) 35 [] [] I R | .inr rrv => rv = some (.int rrv) ∧ True) : ∀ n s, qloop (fun s => cX8_stopAt_2 N R I b0 v1 v2 s) n s = some o → AW (Zm l G mX8_stopAt 1 As R rv I R) 2 [(0, .ref (G.1 + b0)), (1, .int v1), (2, .int v2), (3, .int s)] [] I R := by
  apply qloop_ind
  intro s x hF hc he
  obtain ⟨v3, rfl⟩ : ∃ z, z = s := ⟨s, rfl⟩
  change cX8_stopAt_2 N R I b0 v1 v2 v3 = some x at hF
  unfold cX8_stopAt_2 at hF
  show AW _ 2 [(0, .ref (G.1 + b0)), (1, .int v1), (2, .int v2), (3, .int v3)] [] I R
  refine aw_iload_n dX8_stopAt_2 3 rfl rfl ?_
  refine aw_aload_n dX8_stopAt_3 0 rfl rfl ?_
  obtain ⟨r1, er1, hF⟩ := qbind hF
  have kr1 : qok R r1 9 := hW.get hb0 er1 rfl
  refine aw_getr fl_X8_17 (by decide) fg_X8_4 hb0 er1 rfl dX8_stopAt_4 ?_
  refine aw_iload_n dX8_stopAt_7 1 rfl rfl ?_
  obtain ⟨x2, ex2, hF⟩ := qbind hF
  refine aw_ialdq kr1 ex2 dX8_stopAt_8 ?_
  refine aw_icmp_ge (tgt := 35) dX8_stopAt_9 (by decide) (fun c3 => ?_) (fun c3 => ?_)
  · rw [if_pos c3] at hF
    cases hF
    have hE := he _ rfl
    subst hE
    exact aw_sub [] rfl hx
  · rw [if_neg c3] at hF
    refine aw_aload_n dX8_stopAt_12 0 rfl rfl ?_
    obtain ⟨r4, er4, hF⟩ := qbind hF
    have kr4 : qok R r4 9 := hW.get hb0 er4 rfl
    refine aw_getr fl_X8_20 (by decide) fg_X8_5 hb0 er4 rfl dX8_stopAt_13 ?_
    refine aw_bipush (v := (7 : Int32)) dX8_stopAt_16 (by decide) ?_
    refine aw_iload_n dX8_stopAt_18 1 rfl rfl ?_
    refine aw_imul dX8_stopAt_19 ?_
    refine aw_iload_n dX8_stopAt_20 3 rfl rfl ?_
    refine aw_iadd dX8_stopAt_21 ?_
    obtain ⟨x5, ex5, hF⟩ := qbind hF
    refine aw_ialdq kr4 ex5 dX8_stopAt_22 ?_
    refine aw_iload_n dX8_stopAt_23 2 rfl rfl ?_
    refine aw_icmp_ne (tgt := 29) dX8_stopAt_24 (by decide) (fun c6 => ?_) (fun c6 => ?_)
    · rw [if_neg c6] at hF
      refine aw_iinc (q := 3) (v := (v3 + 1)) (lv' := [(3, .int (v3 + 1)), (0, .ref (G.1 + b0)), (1, .int v1), (2, .int v2)]) dX8_stopAt_29 rfl rfl (Nat.le_of_ble_eq_true rfl) rfl ?_
      refine aw_goto (tgt := 2) dX8_stopAt_32 (by decide) ?_
      cases hF
      exact aw_sub [1, 2, 3, 0] rfl (hc (v3 + 1) rfl)
    · rw [if_pos c6] at hF
      refine aw_iload_n dX8_stopAt_27 3 rfl rfl ?_
      cases hF
      have hE := he _ rfl
      subst hE
      exact aw_iret rfl dX8_stopAt_28 hx.1 rfl rfl
def fX8_stopAt (N : Nat) (R : qR) (I : qI) (a0 : Nat) (p1 : Int32) (p2 : Int32) : Option (Int32) :=
  (qloop (fun s => cX8_stopAt_2 N R I a0 p1 p2 s) N (0 : Int32)).bind fun o7 =>
  qx o7 (fun e8 =>
    some (-1 : Int32)) (fun q9 => some q9)
set_option maxHeartbeats 4000000 in
set_option maxRecDepth 100000 in
theorem sX8_stopAt {l : Launch} {G : qG} {N : Nat} {R : qR} {I : qI} {a0 : Nat} {p1 : Int32} {p2 : Int32} {rv : Int32} (hW : qWT R) (ha0 : qok R a0 8) (hF : fX8_stopAt N R I a0 p1 p2 = some rv) : qMt l G mX8_stopAt 1 [.ref (G.1 + a0), .int p1, .int p2] I R (some (.int rv)) I R := by
  unfold fX8_stopAt at hF
  refine qMt_of (by decide) (Nat.le_of_ble_eq_true rfl) ⟨Nat.le_refl _, Nat.le_refl _⟩ ?_
  show AW _ 0 [(0, .ref (G.1 + a0)), (1, .int p1), (2, .int p2)] [] I R
  refine aw_iconst (v := (0 : Int32)) dX8_stopAt_0 (by decide) ?_
  refine aw_istore_n (lv' := [(3, .int (0 : Int32)), (0, .ref (G.1 + a0)), (1, .int p1), (2, .int p2)]) dX8_stopAt_1 rfl (Nat.le_of_ble_eq_true rfl) rfl ?_
  obtain ⟨o7, eo7, hF⟩ := qbind hF
  refine aw_sub [1, 2, 3, 0] rfl (tX8_stopAt_2 hW ha0 (o := o7) ?_ N (0 : Int32) eo7)
  cases o7 with
  | inl e8 =>
    replace hF := qxl hF
    show AW _ 35 [] [] I R
    refine aw_iconst (v := (-1 : Int32)) dX8_stopAt_35 (by decide) ?_
    cases hF
    exact aw_iret rfl dX8_stopAt_36 rfl rfl rfl
  | inr q9 =>
    replace hF := qxr hF
    cases hF
    exact ⟨rfl, trivial⟩
def fX8_stop (N : Nat) (R : qR) (I : qI) (a0 : Nat) (p1 : Int32) (p2 : Int32) (p3 : Int32) (p4 : Int32) : Option (Int32 × qI) :=
  qlet (qup I a0 0 (0 : Int32)) fun I1 =>
  (fX8_isTrain R I1 a0 p1).bind fun y2 =>
  if y2 = 0 then
    (some ((-1 : Int32), I1))
  else
    ((fX8_isStation R I1 a0 p2).bind fun y4 =>
    if y4 = 0 then
      (some ((-1 : Int32), I1))
    else
      ((fX8_isMinute R I1 a0 p3).bind fun y6 =>
      if y6 = 0 then
        (some ((-1 : Int32), I1))
      else
        ((fX8_isMinute R I1 a0 p4).bind fun y8 =>
        if y8 = 0 then
          (some ((-1 : Int32), I1))
        else
          (if p4 < p3 then
            (some ((-1 : Int32), I1))
          else
            ((R.1 a0 4).bind fun r11 =>
            (qrd I1 R r11 p1).bind fun x12 =>
            if x12 = (7 : Int32) then
              (some ((-1 : Int32), I1))
            else
              ((fX8_stopAt N R I1 a0 p1 p2).bind fun y14 =>
              if y14 = (-1 : Int32) then
                (if x12 ≤ 0 then
                  ((R.1 a0 5).bind fun r17 =>
                  (qwr I1 R r17 (((7 : Int32) * p1) + x12) p2).bind fun I18 =>
                  (R.1 a0 6).bind fun r19 =>
                  (qwr I18 R r19 (((7 : Int32) * p1) + x12) p3).bind fun I20 =>
                  (R.1 a0 7).bind fun r21 =>
                  (qwr I20 R r21 (((7 : Int32) * p1) + x12) p4).bind fun I22 =>
                  (qrd I22 R r11 p1).bind fun x23 =>
                  (qwr I22 R r11 p1 (x23 + (1 : Int32))).bind fun I24 =>
                  (qrd I24 R r11 p1).bind fun x25 =>
                  some (x25, I24))
                else
                  ((R.1 a0 7).bind fun r26 =>
                  (qrd I1 R r26 ((((7 : Int32) * p1) + x12) - (1 : Int32))).bind fun x27 =>
                  if x27 < p3 then
                    ((R.1 a0 5).bind fun r29 =>
                    (qwr I1 R r29 (((7 : Int32) * p1) + x12) p2).bind fun I30 =>
                    (R.1 a0 6).bind fun r31 =>
                    (qwr I30 R r31 (((7 : Int32) * p1) + x12) p3).bind fun I32 =>
                    (qwr I32 R r26 (((7 : Int32) * p1) + x12) p4).bind fun I33 =>
                    (qrd I33 R r11 p1).bind fun x34 =>
                    (qwr I33 R r11 p1 (x34 + (1 : Int32))).bind fun I35 =>
                    (qrd I35 R r11 p1).bind fun x36 =>
                    some (x36, I35))
                  else
                    (some ((-1 : Int32), I1))))
              else
                (some ((-1 : Int32), I1))))))))
set_option maxHeartbeats 4000000 in
set_option maxRecDepth 100000 in
theorem sX8_stop {l : Launch} {G : qG} {N : Nat} {R : qR} {I : qI} {a0 : Nat} {p1 : Int32} {p2 : Int32} {p3 : Int32} {p4 : Int32} {rv : Int32} {rI : qI} (hW : qWT R) (ha0 : qok R a0 8) (hF : fX8_stop N R I a0 p1 p2 p3 p4 = some (rv, rI)) : qMt l G mX8_stop 2 [.ref (G.1 + a0), .int p1, .int p2, .int p3, .int p4] I R (some (.int rv)) rI R := by
  unfold fX8_stop at hF
  refine qMt_of (by decide) (Nat.le_of_ble_eq_true rfl) ⟨Nat.le_refl _, Nat.le_refl _⟩ ?_
  show AW _ 0 [(0, .ref (G.1 + a0)), (1, .int p1), (2, .int p2), (3, .int p3), (4, .int p4)] [] I R
  refine aw_aload_n dX8_stop_0 0 rfl rfl ?_
  refine aw_iconst (v := (0 : Int32)) dX8_stop_1 (by decide) ?_
  obtain ⟨I1, eI1, hF⟩ := qletE hF
  refine aw_putiq fl_X8_94 (by decide) fs_X8_0 fn_X8_0 ft_X8_0 ha0 eI1 rfl dX8_stop_2 ?_
  refine aw_aload_n dX8_stop_5 0 rfl rfl ?_
  refine aw_iload_n dX8_stop_6 1 rfl rfl ?_
  obtain ⟨y2, ey2, hF⟩ := qbind hF
  refine aw_callVi (As := [.int p1]) (sX8_isTrain hW ha0 ey2) cl_X8_104 rfl (qroomL (by decide) (by decide)) rfl ha0 (Nat.le_of_ble_eq_true rfl) dX8_stop_7 rfl ?_
  refine aw_if_eq (tgt := 65) dX8_stop_10 (by decide) (fun c3 => ?_) (fun c3 => ?_)
  · rw [if_pos c3] at hF
    refine aw_iconst (v := (-1 : Int32)) dX8_stop_65 (by decide) ?_
    cases hF
    exact aw_iret rfl dX8_stop_66 rfl rfl rfl
  · rw [if_neg c3] at hF
    refine aw_aload_n dX8_stop_13 0 rfl rfl ?_
    refine aw_iload_n dX8_stop_14 2 rfl rfl ?_
    obtain ⟨y4, ey4, hF⟩ := qbind hF
    refine aw_callVi (As := [.int p2]) (sX8_isStation hW ha0 ey4) cl_X8_107 rfl (qroomL (by decide) (by decide)) rfl ha0 (Nat.le_of_ble_eq_true rfl) dX8_stop_15 rfl ?_
    refine aw_if_eq (tgt := 65) dX8_stop_18 (by decide) (fun c5 => ?_) (fun c5 => ?_)
    · rw [if_pos c5] at hF
      refine aw_iconst (v := (-1 : Int32)) dX8_stop_65 (by decide) ?_
      cases hF
      exact aw_iret rfl dX8_stop_66 rfl rfl rfl
    · rw [if_neg c5] at hF
      refine aw_aload_n dX8_stop_21 0 rfl rfl ?_
      refine aw_iload_n dX8_stop_22 3 rfl rfl ?_
      obtain ⟨y6, ey6, hF⟩ := qbind hF
      refine aw_callVi (As := [.int p3]) (sX8_isMinute hW ha0 ey6) cl_X8_110 rfl (qroomL (by decide) (by decide)) rfl ha0 (Nat.le_of_ble_eq_true rfl) dX8_stop_23 rfl ?_
      refine aw_if_eq (tgt := 65) dX8_stop_26 (by decide) (fun c7 => ?_) (fun c7 => ?_)
      · rw [if_pos c7] at hF
        refine aw_iconst (v := (-1 : Int32)) dX8_stop_65 (by decide) ?_
        cases hF
        exact aw_iret rfl dX8_stop_66 rfl rfl rfl
      · rw [if_neg c7] at hF
        refine aw_aload_n dX8_stop_29 0 rfl rfl ?_
        refine aw_iload dX8_stop_30 4 rfl ?_
        obtain ⟨y8, ey8, hF⟩ := qbind hF
        refine aw_callVi (As := [.int p4]) (sX8_isMinute hW ha0 ey8) cl_X8_110 rfl (qroomL (by decide) (by decide)) rfl ha0 (Nat.le_of_ble_eq_true rfl) dX8_stop_32 rfl ?_
        refine aw_if_eq (tgt := 65) dX8_stop_35 (by decide) (fun c9 => ?_) (fun c9 => ?_)
        · rw [if_pos c9] at hF
          refine aw_iconst (v := (-1 : Int32)) dX8_stop_65 (by decide) ?_
          cases hF
          exact aw_iret rfl dX8_stop_66 rfl rfl rfl
        · rw [if_neg c9] at hF
          refine aw_iload dX8_stop_38 4 rfl ?_
          refine aw_iload_n dX8_stop_40 3 rfl rfl ?_
          refine aw_icmp_lt (tgt := 65) dX8_stop_41 (by decide) (fun c10 => ?_) (fun c10 => ?_)
          · rw [if_pos c10] at hF
            refine aw_iconst (v := (-1 : Int32)) dX8_stop_65 (by decide) ?_
            cases hF
            exact aw_iret rfl dX8_stop_66 rfl rfl rfl
          · rw [if_neg c10] at hF
            refine aw_aload_n dX8_stop_44 0 rfl rfl ?_
            obtain ⟨r11, er11, hF⟩ := qbind hF
            have kr11 : qok R r11 9 := hW.get ha0 er11 rfl
            refine aw_getr fl_X8_17 (by decide) fg_X8_4 ha0 er11 rfl dX8_stop_45 ?_
            refine aw_iload_n dX8_stop_48 1 rfl rfl ?_
            obtain ⟨x12, ex12, hF⟩ := qbind hF
            refine aw_ialdq kr11 ex12 dX8_stop_49 ?_
            refine aw_bipush (v := (7 : Int32)) dX8_stop_50 (by decide) ?_
            refine aw_icmp_eq (tgt := 65) dX8_stop_52 (by decide) (fun c13 => ?_) (fun c13 => ?_)
            · rw [if_pos c13] at hF
              refine aw_iconst (v := (-1 : Int32)) dX8_stop_65 (by decide) ?_
              cases hF
              exact aw_iret rfl dX8_stop_66 rfl rfl rfl
            · rw [if_neg c13] at hF
              refine aw_aload_n dX8_stop_55 0 rfl rfl ?_
              refine aw_iload_n dX8_stop_56 1 rfl rfl ?_
              refine aw_iload_n dX8_stop_57 2 rfl rfl ?_
              obtain ⟨y14, ey14, hF⟩ := qbind hF
              refine aw_callVi (As := [.int p1, .int p2]) (sX8_stopAt hW ha0 ey14) cl_X8_113 rfl (qroomL (by decide) (by decide)) rfl ha0 (Nat.le_of_ble_eq_true rfl) dX8_stop_58 rfl ?_
              refine aw_iconst (v := (-1 : Int32)) dX8_stop_61 (by decide) ?_
              refine aw_icmp_eq (tgt := 67) dX8_stop_62 (by decide) (fun c15 => ?_) (fun c15 => ?_)
              · rw [if_pos c15] at hF
                refine aw_bipush (v := (7 : Int32)) dX8_stop_67 (by decide) ?_
                refine aw_iload_n dX8_stop_69 1 rfl rfl ?_
                refine aw_imul dX8_stop_70 ?_
                refine aw_aload_n dX8_stop_71 0 rfl rfl ?_
                refine aw_getr fl_X8_17 (by decide) fg_X8_4 ha0 er11 rfl dX8_stop_72 ?_
                refine aw_iload_n dX8_stop_75 1 rfl rfl ?_
                refine aw_ialdq kr11 ex12 dX8_stop_76 ?_
                refine aw_iadd dX8_stop_77 ?_
                refine aw_istore (lv' := [(5, .int (((7 : Int32) * p1) + x12)), (0, .ref (G.1 + a0)), (1, .int p1), (2, .int p2), (3, .int p3), (4, .int p4)]) dX8_stop_78 (Nat.le_of_ble_eq_true rfl) rfl ?_
                refine aw_aload_n dX8_stop_80 1 rfl rfl ?_
                refine aw_getr fl_X8_17 (by decide) fg_X8_4 ha0 er11 rfl dX8_stop_81 ?_
                refine aw_iload_n dX8_stop_84 2 rfl rfl ?_
                refine aw_ialdq kr11 ex12 dX8_stop_85 ?_
                refine aw_if_le (tgt := 104) dX8_stop_86 (by decide) (fun c16 => ?_) (fun c16 => ?_)
                · rw [if_pos c16] at hF
                  refine aw_aload_n dX8_stop_104 1 rfl rfl ?_
                  obtain ⟨r17, er17, hF⟩ := qbind hF
                  have kr17 : qok R r17 9 := hW.get ha0 er17 rfl
                  refine aw_getr fl_X8_20 (by decide) fg_X8_5 ha0 er17 rfl dX8_stop_105 ?_
                  refine aw_iload dX8_stop_108 0 rfl ?_
                  refine aw_iload_n dX8_stop_110 3 rfl rfl ?_
                  obtain ⟨I18, eI18, hF⟩ := qbind hF
                  refine aw_iastq kr17 eI18 dX8_stop_111 ?_
                  refine aw_aload_n dX8_stop_112 1 rfl rfl ?_
                  obtain ⟨r19, er19, hF⟩ := qbind hF
                  have kr19 : qok R r19 9 := hW.get ha0 er19 rfl
                  refine aw_getr fl_X8_23 (by decide) fg_X8_6 ha0 er19 rfl dX8_stop_113 ?_
                  refine aw_iload dX8_stop_116 0 rfl ?_
                  refine aw_iload_n dX8_stop_118 4 rfl rfl ?_
                  obtain ⟨I20, eI20, hF⟩ := qbind hF
                  refine aw_iastq kr19 eI20 dX8_stop_119 ?_
                  refine aw_aload_n dX8_stop_120 1 rfl rfl ?_
                  obtain ⟨r21, er21, hF⟩ := qbind hF
                  have kr21 : qok R r21 9 := hW.get ha0 er21 rfl
                  refine aw_getr fl_X8_26 (by decide) fg_X8_7 ha0 er21 rfl dX8_stop_121 ?_
                  refine aw_iload dX8_stop_124 0 rfl ?_
                  refine aw_iload dX8_stop_126 5 rfl ?_
                  obtain ⟨I22, eI22, hF⟩ := qbind hF
                  refine aw_iastq kr21 eI22 dX8_stop_128 ?_
                  refine aw_aload_n dX8_stop_129 1 rfl rfl ?_
                  refine aw_getr fl_X8_17 (by decide) fg_X8_4 ha0 er11 rfl dX8_stop_130 ?_
                  refine aw_iload_n dX8_stop_133 2 rfl rfl ?_
                  refine aw_aload_n dX8_stop_134 1 rfl rfl ?_
                  refine aw_getr fl_X8_17 (by decide) fg_X8_4 ha0 er11 rfl dX8_stop_135 ?_
                  refine aw_iload_n dX8_stop_138 2 rfl rfl ?_
                  obtain ⟨x23, ex23, hF⟩ := qbind hF
                  refine aw_ialdq kr11 ex23 dX8_stop_139 ?_
                  refine aw_iconst (v := (1 : Int32)) dX8_stop_140 (by decide) ?_
                  refine aw_iadd dX8_stop_141 ?_
                  obtain ⟨I24, eI24, hF⟩ := qbind hF
                  refine aw_iastq kr11 eI24 dX8_stop_142 ?_
                  refine aw_aload_n dX8_stop_143 1 rfl rfl ?_
                  refine aw_getr fl_X8_17 (by decide) fg_X8_4 ha0 er11 rfl dX8_stop_144 ?_
                  refine aw_iload_n dX8_stop_147 2 rfl rfl ?_
                  obtain ⟨x25, ex25, hF⟩ := qbind hF
                  refine aw_ialdq kr11 ex25 dX8_stop_148 ?_
                  cases hF
                  exact aw_iret rfl dX8_stop_149 rfl rfl rfl
                · rw [if_neg c16] at hF
                  refine aw_iload_n dX8_stop_89 4 rfl rfl ?_
                  refine aw_aload_n dX8_stop_90 1 rfl rfl ?_
                  obtain ⟨r26, er26, hF⟩ := qbind hF
                  have kr26 : qok R r26 9 := hW.get ha0 er26 rfl
                  refine aw_getr fl_X8_26 (by decide) fg_X8_7 ha0 er26 rfl dX8_stop_91 ?_
                  refine aw_iload dX8_stop_94 0 rfl ?_
                  refine aw_iconst (v := (1 : Int32)) dX8_stop_96 (by decide) ?_
                  refine aw_isub dX8_stop_97 ?_
                  obtain ⟨x27, ex27, hF⟩ := qbind hF
                  refine aw_ialdq kr26 ex27 dX8_stop_98 ?_
                  refine aw_icmp_gt (tgt := 104) dX8_stop_99 (by decide) (fun c28 => ?_) (fun c28 => ?_)
                  · rw [if_pos c28] at hF
                    refine aw_aload_n dX8_stop_104 1 rfl rfl ?_
                    obtain ⟨r29, er29, hF⟩ := qbind hF
                    have kr29 : qok R r29 9 := hW.get ha0 er29 rfl
                    refine aw_getr fl_X8_20 (by decide) fg_X8_5 ha0 er29 rfl dX8_stop_105 ?_
                    refine aw_iload dX8_stop_108 0 rfl ?_
                    refine aw_iload_n dX8_stop_110 3 rfl rfl ?_
                    obtain ⟨I30, eI30, hF⟩ := qbind hF
                    refine aw_iastq kr29 eI30 dX8_stop_111 ?_
                    refine aw_aload_n dX8_stop_112 1 rfl rfl ?_
                    obtain ⟨r31, er31, hF⟩ := qbind hF
                    have kr31 : qok R r31 9 := hW.get ha0 er31 rfl
                    refine aw_getr fl_X8_23 (by decide) fg_X8_6 ha0 er31 rfl dX8_stop_113 ?_
                    refine aw_iload dX8_stop_116 0 rfl ?_
                    refine aw_iload_n dX8_stop_118 4 rfl rfl ?_
                    obtain ⟨I32, eI32, hF⟩ := qbind hF
                    refine aw_iastq kr31 eI32 dX8_stop_119 ?_
                    refine aw_aload_n dX8_stop_120 1 rfl rfl ?_
                    refine aw_getr fl_X8_26 (by decide) fg_X8_7 ha0 er26 rfl dX8_stop_121 ?_
                    refine aw_iload dX8_stop_124 0 rfl ?_
                    refine aw_iload dX8_stop_126 5 rfl ?_
                    obtain ⟨I33, eI33, hF⟩ := qbind hF
                    refine aw_iastq kr26 eI33 dX8_stop_128 ?_
                    refine aw_aload_n dX8_stop_129 1 rfl rfl ?_
                    refine aw_getr fl_X8_17 (by decide) fg_X8_4 ha0 er11 rfl dX8_stop_130 ?_
                    refine aw_iload_n dX8_stop_133 2 rfl rfl ?_
                    refine aw_aload_n dX8_stop_134 1 rfl rfl ?_
                    refine aw_getr fl_X8_17 (by decide) fg_X8_4 ha0 er11 rfl dX8_stop_135 ?_
                    refine aw_iload_n dX8_stop_138 2 rfl rfl ?_
                    obtain ⟨x34, ex34, hF⟩ := qbind hF
                    refine aw_ialdq kr11 ex34 dX8_stop_139 ?_
                    refine aw_iconst (v := (1 : Int32)) dX8_stop_140 (by decide) ?_
                    refine aw_iadd dX8_stop_141 ?_
                    obtain ⟨I35, eI35, hF⟩ := qbind hF
                    refine aw_iastq kr11 eI35 dX8_stop_142 ?_
                    refine aw_aload_n dX8_stop_143 1 rfl rfl ?_
                    refine aw_getr fl_X8_17 (by decide) fg_X8_4 ha0 er11 rfl dX8_stop_144 ?_
                    refine aw_iload_n dX8_stop_147 2 rfl rfl ?_
                    obtain ⟨x36, ex36, hF⟩ := qbind hF
                    refine aw_ialdq kr11 ex36 dX8_stop_148 ?_
                    cases hF
                    exact aw_iret rfl dX8_stop_149 rfl rfl rfl
                  · rw [if_neg c28] at hF
                    refine aw_iconst (v := (-1 : Int32)) dX8_stop_102 (by decide) ?_
                    cases hF
                    exact aw_iret rfl dX8_stop_103 rfl rfl rfl
              · rw [if_neg c15] at hF
                refine aw_iconst (v := (-1 : Int32)) dX8_stop_65 (by decide) ?_
                cases hF
                exact aw_iret rfl dX8_stop_66 rfl rfl rfl
def fX8_days (R : qR) (I : qI) (a0 : Nat) (p1 : Int32) (p2 : Int32) : Option (Int32 × qI) :=
  qlet (qup I a0 0 (0 : Int32)) fun I1 =>
  (fX8_isTrain R I1 a0 p1).bind fun y2 =>
  if y2 = 0 then
    (some ((0 : Int32), I1))
  else
    ((fX8_isDays R I1 a0 p2).bind fun y4 =>
    if y4 = 0 then
      (some ((0 : Int32), I1))
    else
      ((R.1 a0 3).bind fun r6 =>
      (qwr I1 R r6 p1 p2).bind fun I7 =>
      some ((1 : Int32), I7)))
set_option maxHeartbeats 4000000 in
set_option maxRecDepth 100000 in
theorem sX8_days {l : Launch} {G : qG} {R : qR} {I : qI} {a0 : Nat} {p1 : Int32} {p2 : Int32} {rv : Int32} {rI : qI} (hW : qWT R) (ha0 : qok R a0 8) (hF : fX8_days R I a0 p1 p2 = some (rv, rI)) : qMt l G mX8_days 2 [.ref (G.1 + a0), .int p1, .int p2] I R (some (.int rv)) rI R := by
  unfold fX8_days at hF
  refine qMt_of (by decide) (Nat.le_of_ble_eq_true rfl) ⟨Nat.le_refl _, Nat.le_refl _⟩ ?_
  show AW _ 0 [(0, .ref (G.1 + a0)), (1, .int p1), (2, .int p2)] [] I R
  refine aw_aload_n dX8_days_0 0 rfl rfl ?_
  refine aw_iconst (v := (0 : Int32)) dX8_days_1 (by decide) ?_
  obtain ⟨I1, eI1, hF⟩ := qletE hF
  refine aw_putiq fl_X8_94 (by decide) fs_X8_0 fn_X8_0 ft_X8_0 ha0 eI1 rfl dX8_days_2 ?_
  refine aw_aload_n dX8_days_5 0 rfl rfl ?_
  refine aw_iload_n dX8_days_6 1 rfl rfl ?_
  obtain ⟨y2, ey2, hF⟩ := qbind hF
  refine aw_callVi (As := [.int p1]) (sX8_isTrain hW ha0 ey2) cl_X8_104 rfl (qroomL (by decide) (by decide)) rfl ha0 (Nat.le_of_ble_eq_true rfl) dX8_days_7 rfl ?_
  refine aw_if_eq (tgt := 21) dX8_days_10 (by decide) (fun c3 => ?_) (fun c3 => ?_)
  · rw [if_pos c3] at hF
    refine aw_iconst (v := (0 : Int32)) dX8_days_21 (by decide) ?_
    cases hF
    exact aw_zret rfl (by decide) dX8_days_22 rfl rfl rfl
  · rw [if_neg c3] at hF
    refine aw_aload_n dX8_days_13 0 rfl rfl ?_
    refine aw_iload_n dX8_days_14 2 rfl rfl ?_
    obtain ⟨y4, ey4, hF⟩ := qbind hF
    refine aw_callVi (As := [.int p2]) (sX8_isDays hW ha0 ey4) cl_X8_100 rfl (qroomL (by decide) (by decide)) rfl ha0 (Nat.le_of_ble_eq_true rfl) dX8_days_15 rfl ?_
    refine aw_if_ne (tgt := 23) dX8_days_18 (by decide) (fun c5 => ?_) (fun c5 => ?_)
    · rw [if_neg c5] at hF
      refine aw_aload_n dX8_days_23 0 rfl rfl ?_
      obtain ⟨r6, er6, hF⟩ := qbind hF
      have kr6 : qok R r6 9 := hW.get ha0 er6 rfl
      refine aw_getr fl_X8_13 (by decide) fg_X8_3 ha0 er6 rfl dX8_days_24 ?_
      refine aw_iload_n dX8_days_27 1 rfl rfl ?_
      refine aw_iload_n dX8_days_28 2 rfl rfl ?_
      obtain ⟨I7, eI7, hF⟩ := qbind hF
      refine aw_iastq kr6 eI7 dX8_days_29 ?_
      refine aw_iconst (v := (1 : Int32)) dX8_days_30 (by decide) ?_
      cases hF
      exact aw_zret rfl (by decide) dX8_days_31 rfl rfl rfl
    · rw [if_pos c5] at hF
      refine aw_iconst (v := (0 : Int32)) dX8_days_21 (by decide) ?_
      cases hF
      exact aw_zret rfl (by decide) dX8_days_22 rfl rfl rfl
