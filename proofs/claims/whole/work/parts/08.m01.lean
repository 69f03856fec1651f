def fX5_leaves (R : qR) (I : qI) (a0 : Nat) (p1 : Int32) : Option (Int32) :=
  if p1 = ((I a0 1) - (1 : Int32)) then
    ((R.1 a0 3).bind fun r4 =>
    (qrd I R r4 p1).bind fun x5 =>
    some x5)
  else
    ((R.1 a0 4).bind fun r2 =>
    (qrd I R r2 p1).bind fun x3 =>
    some x3)
set_option maxHeartbeats 4000000 in
set_option maxRecDepth 100000 in
theorem sX5_leaves {l : Launch} {G : qG} {R : qR} {I : qI} {a0 : Nat} {p1 : Int32} {rv : Int32} (hW : qWT R) (ha0 : qok R a0 5) (hF : fX5_leaves R I a0 p1 = some rv) : qMt l G mX5_leaves 1 [.ref (G.1 + a0), .int p1] I R (some (.int rv)) I R := by
  unfold fX5_leaves at hF
  refine qMt_of (by decide) (Nat.le_of_ble_eq_true rfl) ⟨Nat.le_refl _, Nat.le_refl _⟩ ?_
  show AW _ 0 [(0, .ref (G.1 + a0)), (1, .int p1)] [] I R
  refine aw_iload_n dX5_leaves_0 1 rfl rfl ?_
  refine aw_aload_n dX5_leaves_1 0 rfl rfl ?_
  refine aw_geti fl_X5_30 (by decide) fg_X5_1 ha0 rfl dX5_leaves_2 ?_
  refine aw_iconst (v := (1 : Int32)) dX5_leaves_5 (by decide) ?_
  refine aw_isub dX5_leaves_6 ?_
  refine aw_icmp_ne (tgt := 19) dX5_leaves_7 (by decide) (fun c1 => ?_) (fun c1 => ?_)
  · rw [if_neg c1] at hF
    refine aw_aload_n dX5_leaves_19 0 rfl rfl ?_
    obtain ⟨r2, er2, hF⟩ := qbind hF
    have kr2 : qok R r2 9 := hW.get ha0 er2 rfl
    refine aw_getr fl_X5_18 (by decide) fg_X5_4 ha0 er2 rfl dX5_leaves_20 ?_
    refine aw_iload_n dX5_leaves_23 1 rfl rfl ?_
    obtain ⟨x3, ex3, hF⟩ := qbind hF
    refine aw_ialdq kr2 ex3 dX5_leaves_24 ?_
    cases hF
    exact aw_iret rfl dX5_leaves_25 rfl rfl rfl
  · rw [if_pos c1] at hF
    refine aw_aload_n dX5_leaves_10 0 rfl rfl ?_
    obtain ⟨r4, er4, hF⟩ := qbind hF
    have kr4 : qok R r4 9 := hW.get ha0 er4 rfl
    refine aw_getr fl_X5_15 (by decide) fg_X5_3 ha0 er4 rfl dX5_leaves_11 ?_
    refine aw_iload_n dX5_leaves_14 1 rfl rfl ?_
    obtain ⟨x5, ex5, hF⟩ := qbind hF
    refine aw_ialdq kr4 ex5 dX5_leaves_15 ?_
    refine aw_goto (tgt := 25) dX5_leaves_16 (by decide) ?_
    cases hF
    exact aw_iret rfl dX5_leaves_25 rfl rfl rfl
def cX5_isAheadSomewhere_2 (N : Nat) (R : qR) (I : qI) (b0 : Nat) (b1 : Nat) (v2 : Int32) : Option ((Int32) ⊕ ((Unit) ⊕ (Int32))) :=
  if (I b0 1) ≤ v2 then
    (some (.inr (.inl ())))
  else
    ((R.1 b1 5).bind fun r2 =>
    (R.1 b0 2).bind fun r3 =>
    (qrd I R r3 v2).bind fun x4 =>
    (qrd I R r2 x4).bind fun x5 =>
    if x5 = (-1 : Int32) then
      (some (.inl (v2 + 1)))
    else
      ((fX5_leaves R I b0 v2).bind fun y7 =>
      (fX5_leaves R I b1 x5).bind fun y8 =>
      if y8 ≤ y7 then
        (some (.inl (v2 + 1)))
      else
        (some (.inr (.inr (1 : Int32))))))
set_option maxHeartbeats 4000000 in
set_option maxRecDepth 100000 in
theorem tX5_isAheadSomewhere_2 {l : Launch} {G : qG} {N : Nat} {R : qR} {I : qI} {As : List Value} {rv : Option Value} {b0 : Nat} {b1 : Nat} (hW : qWT R) (hb0 : qok R b0 5) (hb1 : qok R b1 5) {o : (Unit) ⊕ (Int32)} (hx : match o with | .inl _ => AW (Zm l G mX5_isAheadSomewhere 2 As R rv I R) 48 [] [] I R | .inr rrv => rv = some (.int rrv) ∧ True) : ∀ n s, qloop (fun s => cX5_isAheadSomewhere_2 N R I b0 b1 s) n s = some o → AW (Zm l G mX5_isAheadSomewhere 2 As R rv I R) 2 [(0, .ref (G.1 + b0)), (1, .ref (G.1 + b1)), (2, .int s)] [] I R := by
  apply qloop_ind
  intro s x hF hc he
  obtain ⟨v2, rfl⟩ : ∃ z, z = s := ⟨s, rfl⟩
  change cX5_isAheadSomewhere_2 N R I b0 b1 v2 = some x at hF
  unfold cX5_isAheadSomewhere_2 at hF
  show AW _ 2 [(0, .ref (G.1 + b0)), (1, .ref (G.1 + b1)), (2, .int v2)] [] I R
  refine aw_iload_n dX5_isAheadSomewhere_2 2 rfl rfl ?_
  refine aw_aload_n dX5_isAheadSomewhere_3 0 rfl rfl ?_
  refine aw_geti fl_X5_30 (by decide) fg_X5_1 hb0 rfl dX5_isAheadSomewhere_4 ?_
  refine aw_icmp_ge (tgt := 48) dX5_isAheadSomewhere_7 (by decide) (fun c1 => ?_) (fun c1 => ?_)
  · rw [if_pos c1] at hF
    cases hF
    have hE := he _ rfl
    subst hE
    exact aw_sub [] rfl hx
  · rw [if_neg c1] at hF
    refine aw_aload_n dX5_isAheadSomewhere_10 1 rfl rfl ?_
    obtain ⟨r2, er2, hF⟩ := qbind hF
    have kr2 : qok R r2 9 := hW.get hb1 er2 rfl
    refine aw_getr fl_X5_21 (by decide) fg_X5_5 hb1 er2 rfl dX5_isAheadSomewhere_11 ?_
    refine aw_aload_n dX5_isAheadSomewhere_14 0 rfl rfl ?_
    obtain ⟨r3, er3, hF⟩ := qbind hF
    have kr3 : qok R r3 9 := hW.get hb0 er3 rfl
    refine aw_getr fl_X5_9 (by decide) fg_X5_2 hb0 er3 rfl dX5_isAheadSomewhere_15 ?_
    refine aw_iload_n dX5_isAheadSomewhere_18 2 rfl rfl ?_
    obtain ⟨x4, ex4, hF⟩ := qbind hF
    refine aw_ialdq kr3 ex4 dX5_isAheadSomewhere_19 ?_
    obtain ⟨x5, ex5, hF⟩ := qbind hF
    refine aw_ialdq kr2 ex5 dX5_isAheadSomewhere_20 ?_
    refine aw_istore_n (lv' := [(3, .int x5), (0, .ref (G.1 + b0)), (1, .ref (G.1 + b1)), (2, .int v2)]) dX5_isAheadSomewhere_21 rfl (Nat.le_of_ble_eq_true rfl) rfl ?_
    refine aw_iload_n dX5_isAheadSomewhere_22 0 rfl rfl ?_
    refine aw_iconst (v := (-1 : Int32)) dX5_isAheadSomewhere_23 (by decide) ?_
    refine aw_icmp_eq (tgt := 42) dX5_isAheadSomewhere_24 (by decide) (fun c6 => ?_) (fun c6 => ?_)
    · rw [if_pos c6] at hF
      refine aw_iinc (q := 3) (v := (v2 + 1)) (lv' := [(2, .int (v2 + 1)), (3, .int x5), (0, .ref (G.1 + b0)), (1, .ref (G.1 + b1))]) dX5_isAheadSomewhere_42 rfl rfl (Nat.le_of_ble_eq_true rfl) rfl ?_
      refine aw_goto (tgt := 2) dX5_isAheadSomewhere_45 (by decide) ?_
      cases hF
      exact aw_sub [2, 3, 0] rfl (hc (v2 + 1) rfl)
    · rw [if_neg c6] at hF
      refine aw_aload_n dX5_isAheadSomewhere_27 1 rfl rfl ?_
      refine aw_iload_n dX5_isAheadSomewhere_28 3 rfl rfl ?_
      obtain ⟨y7, ey7, hF⟩ := qbind hF
      refine aw_callVi (As := [.int v2]) (sX5_leaves hW hb0 ey7) cl_X5_39 rfl (qroomL (by decide) (by decide)) rfl hb0 (Nat.le_of_ble_eq_true rfl) dX5_isAheadSomewhere_29 rfl ?_
      refine aw_aload_n dX5_isAheadSomewhere_32 2 rfl rfl ?_
      refine aw_iload_n dX5_isAheadSomewhere_33 0 rfl rfl ?_
      obtain ⟨y8, ey8, hF⟩ := qbind hF
      refine aw_callVi (As := [.int x5]) (sX5_leaves hW hb1 ey8) cl_X5_39 rfl (qroomL (by decide) (by decide)) rfl hb1 (Nat.le_of_ble_eq_true rfl) dX5_isAheadSomewhere_34 rfl ?_
      refine aw_icmp_ge (tgt := 42) dX5_isAheadSomewhere_37 (by decide) (fun c9 => ?_) (fun c9 => ?_)
      · rw [if_pos c9] at hF
        refine aw_iinc (q := 3) (v := (v2 + 1)) (lv' := [(2, .int (v2 + 1)), (3, .int x5), (0, .ref (G.1 + b0)), (1, .ref (G.1 + b1))]) dX5_isAheadSomewhere_42 rfl rfl (Nat.le_of_ble_eq_true rfl) rfl ?_
        refine aw_goto (tgt := 2) dX5_isAheadSomewhere_45 (by decide) ?_
        cases hF
        exact aw_sub [2, 3, 0] rfl (hc (v2 + 1) rfl)
      · rw [if_neg c9] at hF
        refine aw_iconst (v := (1 : Int32)) dX5_isAheadSomewhere_40 (by decide) ?_
        cases hF
        have hE := he _ rfl
        subst hE
        exact aw_zret rfl (by decide) dX5_isAheadSomewhere_41 hx.1 rfl rfl
def fX5_isAheadSomewhere (N : Nat) (R : qR) (I : qI) (a0 : Nat) (a1 : Nat) : Option (Int32) :=
  (qloop (fun s => cX5_isAheadSomewhere_2 N R I a0 a1 s) N (0 : Int32)).bind fun o10 =>
  qx o10 (fun e11 =>
    some (0 : Int32)) (fun q12 => some q12)
set_option maxHeartbeats 4000000 in
set_option maxRecDepth 100000 in
theorem sX5_isAheadSomewhere {l : Launch} {G : qG} {N : Nat} {R : qR} {I : qI} {a0 : Nat} {a1 : Nat} {rv : Int32} (hW : qWT R) (ha0 : qok R a0 5) (ha1 : qok R a1 5) (hF : fX5_isAheadSomewhere N R I a0 a1 = some rv) : qMt l G mX5_isAheadSomewhere 2 [.ref (G.1 + a0), .ref (G.1 + a1)] I R (some (.int rv)) I R := by
  unfold fX5_isAheadSomewhere at hF
  refine qMt_of (by decide) (Nat.le_of_ble_eq_true rfl) ⟨Nat.le_refl _, Nat.le_refl _⟩ ?_
  show AW _ 0 [(0, .ref (G.1 + a0)), (1, .ref (G.1 + a1))] [] I R
  refine aw_iconst (v := (0 : Int32)) dX5_isAheadSomewhere_0 (by decide) ?_
  refine aw_istore_n (lv' := [(2, .int (0 : Int32)), (0, .ref (G.1 + a0)), (1, .ref (G.1 + a1))]) dX5_isAheadSomewhere_1 rfl (Nat.le_of_ble_eq_true rfl) rfl ?_
  obtain ⟨o10, eo10, hF⟩ := qbind hF
  refine aw_sub [1, 2, 0] rfl (tX5_isAheadSomewhere_2 hW ha0 ha1 (o := o10) ?_ N (0 : Int32) eo10)
  cases o10 with
  | inl e11 =>
    replace hF := qxl hF
    show AW _ 48 [] [] I R
    refine aw_iconst (v := (0 : Int32)) dX5_isAheadSomewhere_48 (by decide) ?_
    cases hF
    exact aw_zret rfl (by decide) dX5_isAheadSomewhere_49 rfl rfl rfl
  | inr q12 =>
    replace hF := qxr hF
    cases hF
    exact ⟨rfl, trivial⟩
def cX0_breachedBy_5 (N : Nat) (R : qR) (I : qI) (b0 : Nat) (b1 : Nat) (v2 : Int32) (v3 : Int32) (v4 : Int32) : Option ((Int32 × Int32) ⊕ (Int32)) :=
  if (I b0 3) ≤ v4 then
    (some (.inr v3))
  else
    (if v4 = v2 then
      (some (.inl (v3, (v4 + 1))))
    else
      ((qra R b1 v2).bind fun r3 =>
      (qra R b1 v4).bind fun r4 =>
      (fX5_isAheadSomewhere N R I r3 r4).bind fun y5 =>
      if y5 = 0 then
        (some (.inl (v3, (v4 + 1))))
      else
        (some (.inl ((v3 ||| ((1 : Int32) <<< (v4 &&& 31))), (v4 + 1))))))
set_option maxHeartbeats 4000000 in
set_option maxRecDepth 100000 in
theorem tX0_breachedBy_5 {l : Launch} {G : qG} {N : Nat} {R : qR} {I : qI} {As : List Value} {rv : Option Value} {b0 : Nat} {b1 : Nat} {v2 : Int32} (hW : qWT R) (hb0 : qok R b0 0) (hb1 : qok R b1 11) {o : Int32} (hx : AW (Zm l G mX0_breachedBy 3 As R rv I R) 46 [(3, .int o)] [] I R) : ∀ n s, qloop (fun s => cX0_breachedBy_5 N R I b0 b1 v2 s.1 s.2) n s = some o → (match s with | (v3, v4) => AW (Zm l G mX0_breachedBy 3 As R rv I R) 5 [(0, .ref (G.1 + b0)), (1, .ref (G.1 + b1)), (2, .int v2), (3, .int v3), (4, .int v4)] [] I R) := by
  apply qloop_ind
  intro s x hF hc he
  obtain ⟨v3, v4⟩ := s
  change cX0_breachedBy_5 N R I b0 b1 v2 v3 v4 = some x at hF
  unfold cX0_breachedBy_5 at hF
  show AW _ 5 [(0, .ref (G.1 + b0)), (1, .ref (G.1 + b1)), (2, .int v2), (3, .int v3), (4, .int v4)] [] I R
  refine aw_iload dX0_breachedBy_5 4 rfl ?_
  refine aw_aload_n dX0_breachedBy_7 0 rfl rfl ?_
  refine aw_geti fl_X0_21 (by decide) fg_X0_3 hb0 rfl dX0_breachedBy_8 ?_
  refine aw_icmp_ge (tgt := 46) dX0_breachedBy_11 (by decide) (fun c1 => ?_) (fun c1 => ?_)
  · rw [if_pos c1] at hF
    cases hF
    have hE := he _ rfl
    subst hE
    exact aw_sub [3] rfl hx
  · rw [if_neg c1] at hF
    refine aw_iload dX0_breachedBy_14 4 rfl ?_
    refine aw_iload_n dX0_breachedBy_16 2 rfl rfl ?_
    refine aw_icmp_eq (tgt := 40) dX0_breachedBy_17 (by decide) (fun c2 => ?_) (fun c2 => ?_)
    · rw [if_pos c2] at hF
      refine aw_iinc (q := 4) (v := (v4 + 1)) (lv' := [(4, .int (v4 + 1)), (0, .ref (G.1 + b0)), (1, .ref (G.1 + b1)), (2, .int v2), (3, .int v3)]) dX0_breachedBy_40 rfl rfl (Nat.le_of_ble_eq_true rfl) rfl ?_
      refine aw_goto (tgt := 5) dX0_breachedBy_43 (by decide) ?_
      cases hF
      exact aw_sub [1, 2, 3, 4, 0] rfl (hc (v3, (v4 + 1)) rfl)
    · rw [if_neg c2] at hF
      refine aw_aload_n dX0_breachedBy_20 1 rfl rfl ?_
      refine aw_iload_n dX0_breachedBy_21 2 rfl rfl ?_
      obtain ⟨r3, er3, hF⟩ := qbind hF
      have kr3 : qok R r3 5 := hW.elem hb1 er3
      refine aw_aaldq hb1 er3 dX0_breachedBy_22 ?_
      refine aw_aload_n dX0_breachedBy_23 1 rfl rfl ?_
      refine aw_iload dX0_breachedBy_24 4 rfl ?_
      obtain ⟨r4, er4, hF⟩ := qbind hF
      have kr4 : qok R r4 5 := hW.elem hb1 er4
      refine aw_aaldq hb1 er4 dX0_breachedBy_26 ?_
      obtain ⟨y5, ey5, hF⟩ := qbind hF
      refine aw_callVi (As := [.ref (G.1 + r4)]) (sX5_isAheadSomewhere hW kr3 kr4 ey5) cl_X0_45 rfl (qroomL (by decide) (by decide)) rfl kr3 (Nat.le_of_ble_eq_true rfl) dX0_breachedBy_27 rfl ?_
      refine aw_if_eq (tgt := 40) dX0_breachedBy_30 (by decide) (fun c6 => ?_) (fun c6 => ?_)
      · rw [if_pos c6] at hF
        refine aw_iinc (q := 4) (v := (v4 + 1)) (lv' := [(4, .int (v4 + 1)), (0, .ref (G.1 + b0)), (1, .ref (G.1 + b1)), (2, .int v2), (3, .int v3)]) dX0_breachedBy_40 rfl rfl (Nat.le_of_ble_eq_true rfl) rfl ?_
        refine aw_goto (tgt := 5) dX0_breachedBy_43 (by decide) ?_
        cases hF
        exact aw_sub [1, 2, 3, 4, 0] rfl (hc (v3, (v4 + 1)) rfl)
      · rw [if_neg c6] at hF
        refine aw_iload_n dX0_breachedBy_33 3 rfl rfl ?_
        refine aw_iconst (v := (1 : Int32)) dX0_breachedBy_34 (by decide) ?_
        refine aw_iload dX0_breachedBy_35 4 rfl ?_
        refine aw_ishl dX0_breachedBy_37 ?_
        refine aw_ior dX0_breachedBy_38 ?_
        refine aw_istore_n (lv' := [(3, .int (v3 ||| ((1 : Int32) <<< (v4 &&& 31)))), (0, .ref (G.1 + b0)), (1, .ref (G.1 + b1)), (2, .int v2), (4, .int v4)]) dX0_breachedBy_39 rfl (Nat.le_of_ble_eq_true rfl) rfl ?_
        refine aw_iinc (q := 4) (v := (v4 + 1)) (lv' := [(4, .int (v4 + 1)), (3, .int (v3 ||| ((1 : Int32) <<< (v4 &&& 31)))), (0, .ref (G.1 + b0)), (1, .ref (G.1 + b1)), (2, .int v2)]) dX0_breachedBy_40 rfl rfl (Nat.le_of_ble_eq_true rfl) rfl ?_
        refine aw_goto (tgt := 5) dX0_breachedBy_43 (by decide) ?_
        cases hF
        exact aw_sub [2, 3, 4, 1, 0] rfl (hc ((v3 ||| ((1 : Int32) <<< (v4 &&& 31))), (v4 + 1)) rfl)
def fX0_breachedBy (N : Nat) (R : qR) (I : qI) (a0 : Nat) (a1 : Nat) (p2 : Int32) : Option (Int32) :=
  (qloop (fun s => cX0_breachedBy_5 N R I a0 a1 p2 s.1 s.2) N ((0 : Int32), (0 : Int32))).bind fun o7 =>
  some o7
set_option maxHeartbeats 4000000 in
set_option maxRecDepth 100000 in
theorem sX0_breachedBy {l : Launch} {G : qG} {N : Nat} {R : qR} {I : qI} {a0 : Nat} {a1 : Nat} {p2 : Int32} {rv : Int32} (hW : qWT R) (ha0 : qok R a0 0) (ha1 : qok R a1 11) (hF : fX0_breachedBy N R I a0 a1 p2 = some rv) : qMt l G mX0_breachedBy 3 [.ref (G.1 + a0), .ref (G.1 + a1), .int p2] I R (some (.int rv)) I R := by
  unfold fX0_breachedBy at hF
  refine qMt_of (by decide) (Nat.le_of_ble_eq_true rfl) ⟨Nat.le_refl _, Nat.le_refl _⟩ ?_
  show AW _ 0 [(0, .ref (G.1 + a0)), (1, .ref (G.1 + a1)), (2, .int p2)] [] I R
  refine aw_iconst (v := (0 : Int32)) dX0_breachedBy_0 (by decide) ?_
  refine aw_istore_n (lv' := [(3, .int (0 : Int32)), (0, .ref (G.1 + a0)), (1, .ref (G.1 + a1)), (2, .int p2)]) dX0_breachedBy_1 rfl (Nat.le_of_ble_eq_true rfl) rfl ?_
  refine aw_iconst (v := (0 : Int32)) dX0_breachedBy_2 (by decide) ?_
  refine aw_istore (lv' := [(4, .int (0 : Int32)), (3, .int (0 : Int32)), (0, .ref (G.1 + a0)), (1, .ref (G.1 + a1)), (2, .int p2)]) dX0_breachedBy_3 (Nat.le_of_ble_eq_true rfl) rfl ?_
  obtain ⟨o7, eo7, hF⟩ := qbind hF
  refine aw_sub [2, 3, 4, 1, 0] rfl (tX0_breachedBy_5 hW ha0 ha1 (o := o7) ?_ N ((0 : Int32), (0 : Int32)) eo7)
  show AW _ 46 [(3, .int o7)] [] I R
  refine aw_iload_n dX0_breachedBy_46 0 rfl rfl ?_
  cases hF
  exact aw_iret rfl dX0_breachedBy_47 rfl rfl rfl
def fJ6_bitCount_0f7a4 (R : qR) (I : qI) (p0 : Int32) : Option (Int32) :=
  some ((((((((p0 - ((((p0).toUInt32 >>> (((1 : Int32)).toUInt32 &&& Int32.toUInt32 31)).toInt32) &&& (1431655765 : Int32))) &&& (858993459 : Int32)) + (((((p0 - ((((p0).toUInt32 >>> (((1 : Int32)).toUInt32 &&& Int32.toUInt32 31)).toInt32) &&& (1431655765 : Int32)))).toUInt32 >>> (((2 : Int32)).toUInt32 &&& Int32.toUInt32 31)).toInt32) &&& (858993459 : Int32))) + ((((((p0 - ((((p0).toUInt32 >>> (((1 : Int32)).toUInt32 &&& Int32.toUInt32 31)).toInt32) &&& (1431655765 : Int32))) &&& (858993459 : Int32)) + (((((p0 - ((((p0).toUInt32 >>> (((1 : Int32)).toUInt32 &&& Int32.toUInt32 31)).toInt32) &&& (1431655765 : Int32)))).toUInt32 >>> (((2 : Int32)).toUInt32 &&& Int32.toUInt32 31)).toInt32) &&& (858993459 : Int32)))).toUInt32 >>> (((4 : Int32)).toUInt32 &&& Int32.toUInt32 31)).toInt32)) &&& (252645135 : Int32)) + ((((((((p0 - ((((p0).toUInt32 >>> (((1 : Int32)).toUInt32 &&& Int32.toUInt32 31)).toInt32) &&& (1431655765 : Int32))) &&& (858993459 : Int32)) + (((((p0 - ((((p0).toUInt32 >>> (((1 : Int32)).toUInt32 &&& Int32.toUInt32 31)).toInt32) &&& (1431655765 : Int32)))).toUInt32 >>> (((2 : Int32)).toUInt32 &&& Int32.toUInt32 31)).toInt32) &&& (858993459 : Int32))) + ((((((p0 - ((((p0).toUInt32 >>> (((1 : Int32)).toUInt32 &&& Int32.toUInt32 31)).toInt32) &&& (1431655765 : Int32))) &&& (858993459 : Int32)) + (((((p0 - ((((p0).toUInt32 >>> (((1 : Int32)).toUInt32 &&& Int32.toUInt32 31)).toInt32) &&& (1431655765 : Int32)))).toUInt32 >>> (((2 : Int32)).toUInt32 &&& Int32.toUInt32 31)).toInt32) &&& (858993459 : Int32)))).toUInt32 >>> (((4 : Int32)).toUInt32 &&& Int32.toUInt32 31)).toInt32)) &&& (252645135 : Int32))).toUInt32 >>> (((8 : Int32)).toUInt32 &&& Int32.toUInt32 31)).toInt32)) + (((((((((p0 - ((((p0).toUInt32 >>> (((1 : Int32)).toUInt32 &&& Int32.toUInt32 31)).toInt32) &&& (1431655765 : Int32))) &&& (858993459 : Int32)) + (((((p0 - ((((p0).toUInt32 >>> (((1 : Int32)).toUInt32 &&& Int32.toUInt32 31)).toInt32) &&& (1431655765 : Int32)))).toUInt32 >>> (((2 : Int32)).toUInt32 &&& Int32.toUInt32 31)).toInt32) &&& (858993459 : Int32))) + ((((((p0 - ((((p0).toUInt32 >>> (((1 : Int32)).toUInt32 &&& Int32.toUInt32 31)).toInt32) &&& (1431655765 : Int32))) &&& (858993459 : Int32)) + (((((p0 - ((((p0).toUInt32 >>> (((1 : Int32)).toUInt32 &&& Int32.toUInt32 31)).toInt32) &&& (1431655765 : Int32)))).toUInt32 >>> (((2 : Int32)).toUInt32 &&& Int32.toUInt32 31)).toInt32) &&& (858993459 : Int32)))).toUInt32 >>> (((4 : Int32)).toUInt32 &&& Int32.toUInt32 31)).toInt32)) &&& (252645135 : Int32)) + ((((((((p0 - ((((p0).toUInt32 >>> (((1 : Int32)).toUInt32 &&& Int32.toUInt32 31)).toInt32) &&& (1431655765 : Int32))) &&& (858993459 : Int32)) + (((((p0 - ((((p0).toUInt32 >>> (((1 : Int32)).toUInt32 &&& Int32.toUInt32 31)).toInt32) &&& (1431655765 : Int32)))).toUInt32 >>> (((2 : Int32)).toUInt32 &&& Int32.toUInt32 31)).toInt32) &&& (858993459 : Int32))) + ((((((p0 - ((((p0).toUInt32 >>> (((1 : Int32)).toUInt32 &&& Int32.toUInt32 31)).toInt32) &&& (1431655765 : Int32))) &&& (858993459 : Int32)) + (((((p0 - ((((p0).toUInt32 >>> (((1 : Int32)).toUInt32 &&& Int32.toUInt32 31)).toInt32) &&& (1431655765 : Int32)))).toUInt32 >>> (((2 : Int32)).toUInt32 &&& Int32.toUInt32 31)).toInt32) &&& (858993459 : Int32)))).toUInt32 >>> (((4 : Int32)).toUInt32 &&& Int32.toUInt32 31)).toInt32)) &&& (252645135 : Int32))).toUInt32 >>> (((8 : Int32)).toUInt32 &&& Int32.toUInt32 31)).toInt32))).toUInt32 >>> (((16 : Int32)).toUInt32 &&& Int32.toUInt32 31)).toInt32)) &&& (63 : Int32))
set_option maxHeartbeats 4000000 in
set_option maxRecDepth 100000 in
theorem sJ6_bitCount_0f7a4 {l : Launch} {G : qG} {R : qR} {I : qI} {p0 : Int32} {rv : Int32} (hW : qWT R)  (hF : fJ6_bitCount_0f7a4 R I p0 = some rv) : qMt l G mJ6_bitCount_0f7a4 1 [.int p0] I R (some (.int rv)) I R := by
  unfold fJ6_bitCount_0f7a4 at hF
  refine qMt_of (by decide) (Nat.le_of_ble_eq_true rfl) ⟨Nat.le_refl _, Nat.le_refl _⟩ ?_
  show AW _ 0 [(0, .int p0)] [] I R
  refine aw_iload_n dJ6_bitCount_0f7a4_0 0 rfl rfl ?_
  refine aw_iload_n dJ6_bitCount_0f7a4_1 0 rfl rfl ?_
  refine aw_iconst (v := (1 : Int32)) dJ6_bitCount_0f7a4_2 (by decide) ?_
  refine aw_iushr dJ6_bitCount_0f7a4_3 ?_
  refine aw_ldcw ck_J6_265 rfl dJ6_bitCount_0f7a4_4 ?_
  refine aw_iand dJ6_bitCount_0f7a4_7 ?_
  refine aw_isub dJ6_bitCount_0f7a4_8 ?_
  refine aw_istore_n (lv' := [(0, .int (p0 - ((((p0).toUInt32 >>> (((1 : Int32)).toUInt32 &&& Int32.toUInt32 31)).toInt32) &&& (1431655765 : Int32))))]) dJ6_bitCount_0f7a4_9 rfl (Nat.le_of_ble_eq_true rfl) rfl ?_
  refine aw_iload_n dJ6_bitCount_0f7a4_10 0 rfl rfl ?_
  refine aw_ldcw ck_J6_266 rfl dJ6_bitCount_0f7a4_11 ?_
  refine aw_iand dJ6_bitCount_0f7a4_14 ?_
  refine aw_iload_n dJ6_bitCount_0f7a4_15 0 rfl rfl ?_
  refine aw_iconst (v := (2 : Int32)) dJ6_bitCount_0f7a4_16 (by decide) ?_
  refine aw_iushr dJ6_bitCount_0f7a4_17 ?_
  refine aw_ldcw ck_J6_266 rfl dJ6_bitCount_0f7a4_18 ?_
  refine aw_iand dJ6_bitCount_0f7a4_21 ?_
  refine aw_iadd dJ6_bitCount_0f7a4_22 ?_
  refine aw_istore_n (lv' := [(0, .int (((p0 - ((((p0).toUInt32 >>> (((1 : Int32)).toUInt32 &&& Int32.toUInt32 31)).toInt32) &&& (1431655765 : Int32))) &&& (858993459 : Int32)) + (((((p0 - ((((p0).toUInt32 >>> (((1 : Int32)).toUInt32 &&& Int32.toUInt32 31)).toInt32) &&& (1431655765 : Int32)))).toUInt32 >>> (((2 : Int32)).toUInt32 &&& Int32.toUInt32 31)).toInt32) &&& (858993459 : Int32))))]) dJ6_bitCount_0f7a4_23 rfl (Nat.le_of_ble_eq_true rfl) rfl ?_
  refine aw_iload_n dJ6_bitCount_0f7a4_24 0 rfl rfl ?_
  refine aw_iload_n dJ6_bitCount_0f7a4_25 0 rfl rfl ?_
  refine aw_iconst (v := (4 : Int32)) dJ6_bitCount_0f7a4_26 (by decide) ?_
  refine aw_iushr dJ6_bitCount_0f7a4_27 ?_
  refine aw_iadd dJ6_bitCount_0f7a4_28 ?_
  refine aw_ldcw ck_J6_267 rfl dJ6_bitCount_0f7a4_29 ?_
  refine aw_iand dJ6_bitCount_0f7a4_32 ?_
  refine aw_istore_n (lv' := [(0, .int (((((p0 - ((((p0).toUInt32 >>> (((1 : Int32)).toUInt32 &&& Int32.toUInt32 31)).toInt32) &&& (1431655765 : Int32))) &&& (858993459 : Int32)) + (((((p0 - ((((p0).toUInt32 >>> (((1 : Int32)).toUInt32 &&& Int32.toUInt32 31)).toInt32) &&& (1431655765 : Int32)))).toUInt32 >>> (((2 : Int32)).toUInt32 &&& Int32.toUInt32 31)).toInt32) &&& (858993459 : Int32))) + ((((((p0 - ((((p0).toUInt32 >>> (((1 : Int32)).toUInt32 &&& Int32.toUInt32 31)).toInt32) &&& (1431655765 : Int32))) &&& (858993459 : Int32)) + (((((p0 - ((((p0).toUInt32 >>> (((1 : Int32)).toUInt32 &&& Int32.toUInt32 31)).toInt32) &&& (1431655765 : Int32)))).toUInt32 >>> (((2 : Int32)).toUInt32 &&& Int32.toUInt32 31)).toInt32) &&& (858993459 : Int32)))).toUInt32 >>> (((4 : Int32)).toUInt32 &&& Int32.toUInt32 31)).toInt32)) &&& (252645135 : Int32)))]) dJ6_bitCount_0f7a4_33 rfl (Nat.le_of_ble_eq_true rfl) rfl ?_
  refine aw_iload_n dJ6_bitCount_0f7a4_34 0 rfl rfl ?_
  refine aw_iload_n dJ6_bitCount_0f7a4_35 0 rfl rfl ?_
  refine aw_bipush (v := (8 : Int32)) dJ6_bitCount_0f7a4_36 (by decide) ?_
  refine aw_iushr dJ6_bitCount_0f7a4_38 ?_
  refine aw_iadd dJ6_bitCount_0f7a4_39 ?_
  refine aw_istore_n (lv' := [(0, .int ((((((p0 - ((((p0).toUInt32 >>> (((1 : Int32)).toUInt32 &&& Int32.toUInt32 31)).toInt32) &&& (1431655765 : Int32))) &&& (858993459 : Int32)) + (((((p0 - ((((p0).toUInt32 >>> (((1 : Int32)).toUInt32 &&& Int32.toUInt32 31)).toInt32) &&& (1431655765 : Int32)))).toUInt32 >>> (((2 : Int32)).toUInt32 &&& Int32.toUInt32 31)).toInt32) &&& (858993459 : Int32))) + ((((((p0 - ((((p0).toUInt32 >>> (((1 : Int32)).toUInt32 &&& Int32.toUInt32 31)).toInt32) &&& (1431655765 : Int32))) &&& (858993459 : Int32)) + (((((p0 - ((((p0).toUInt32 >>> (((1 : Int32)).toUInt32 &&& Int32.toUInt32 31)).toInt32) &&& (1431655765 : Int32)))).toUInt32 >>> (((2 : Int32)).toUInt32 &&& Int32.toUInt32 31)).toInt32) &&& (858993459 : Int32)))).toUInt32 >>> (((4 : Int32)).toUInt32 &&& Int32.toUInt32 31)).toInt32)) &&& (252645135 : Int32)) + ((((((((p0 - ((((p0).toUInt32 >>> (((1 : Int32)).toUInt32 &&& Int32.toUInt32 31)).toInt32) &&& (1431655765 : Int32))) &&& (858993459 : Int32)) + (((((p0 - ((((p0).toUInt32 >>> (((1 : Int32)).toUInt32 &&& Int32.toUInt32 31)).toInt32) &&& (1431655765 : Int32)))).toUInt32 >>> (((2 : Int32)).toUInt32 &&& Int32.toUInt32 31)).toInt32) &&& (858993459 : Int32))) + ((((((p0 - ((((p0).toUInt32 >>> (((1 : Int32)).toUInt32 &&& Int32.toUInt32 31)).toInt32) &&& (1431655765 : Int32))) &&& (858993459 : Int32)) + (((((p0 - ((((p0).toUInt32 >>> (((1 : Int32)).toUInt32 &&& Int32.toUInt32 31)).toInt32) &&& (1431655765 : Int32)))).toUInt32 >>> (((2 : Int32)).toUInt32 &&& Int32.toUInt32 31)).toInt32) &&& (858993459 : Int32)))).toUInt32 >>> (((4 : Int32)).toUInt32 &&& Int32.toUInt32 31)).toInt32)) &&& (252645135 : Int32))).toUInt32 >>> (((8 : Int32)).toUInt32 &&& Int32.toUInt32 31)).toInt32)))]) dJ6_bitCount_0f7a4_40 rfl (Nat.le_of_ble_eq_true rfl) rfl ?_
  refine aw_iload_n dJ6_bitCount_0f7a4_41 0 rfl rfl ?_
  refine aw_iload_n dJ6_bitCount_0f7a4_42 0 rfl rfl ?_
  refine aw_bipush (v := (16 : Int32)) dJ6_bitCount_0f7a4_43 (by decide) ?_
  refine aw_iushr dJ6_bitCount_0f7a4_45 ?_
  refine aw_iadd dJ6_bitCount_0f7a4_46 ?_
  refine aw_istore_n (lv' := [(0, .int (((((((p0 - ((((p0).toUInt32 >>> (((1 : Int32)).toUInt32 &&& Int32.toUInt32 31)).toInt32) &&& (1431655765 : Int32))) &&& (858993459 : Int32)) + (((((p0 - ((((p0).toUInt32 >>> (((1 : Int32)).toUInt32 &&& Int32.toUInt32 31)).toInt32) &&& (1431655765 : Int32)))).toUInt32 >>> (((2 : Int32)).toUInt32 &&& Int32.toUInt32 31)).toInt32) &&& (858993459 : Int32))) + ((((((p0 - ((((p0).toUInt32 >>> (((1 : Int32)).toUInt32 &&& Int32.toUInt32 31)).toInt32) &&& (1431655765 : Int32))) &&& (858993459 : Int32)) + (((((p0 - ((((p0).toUInt32 >>> (((1 : Int32)).toUInt32 &&& Int32.toUInt32 31)).toInt32) &&& (1431655765 : Int32)))).toUInt32 >>> (((2 : Int32)).toUInt32 &&& Int32.toUInt32 31)).toInt32) &&& (858993459 : Int32)))).toUInt32 >>> (((4 : Int32)).toUInt32 &&& Int32.toUInt32 31)).toInt32)) &&& (252645135 : Int32)) + ((((((((p0 - ((((p0).toUInt32 >>> (((1 : Int32)).toUInt32 &&& Int32.toUInt32 31)).toInt32) &&& (1431655765 : Int32))) &&& (858993459 : Int32)) + (((((p0 - ((((p0).toUInt32 >>> (((1 : Int32)).toUInt32 &&& Int32.toUInt32 31)).toInt32) &&& (1431655765 : Int32)))).toUInt32 >>> (((2 : Int32)).toUInt32 &&& Int32.toUInt32 31)).toInt32) &&& (858993459 : Int32))) + ((((((p0 - ((((p0).toUInt32 >>> (((1 : Int32)).toUInt32 &&& Int32.toUInt32 31)).toInt32) &&& (1431655765 : Int32))) &&& (858993459 : Int32)) + (((((p0 - ((((p0).toUInt32 >>> (((1 : Int32)).toUInt32 &&& Int32.toUInt32 31)).toInt32) &&& (1431655765 : Int32)))).toUInt32 >>> (((2 : Int32)).toUInt32 &&& Int32.toUInt32 31)).toInt32) &&& (858993459 : Int32)))).toUInt32 >>> (((4 : Int32)).toUInt32 &&& Int32.toUInt32 31)).toInt32)) &&& (252645135 : Int32))).toUInt32 >>> (((8 : Int32)).toUInt32 &&& Int32.toUInt32 31)).toInt32)) + (((((((((p0 - ((((p0).toUInt32 >>> (((1 : Int32)).toUInt32 &&& Int32.toUInt32 31)).toInt32) &&& (1431655765 : Int32))) &&& (858993459 : Int32)) + (((((p0 - ((((p0).toUInt32 >>> (((1 : Int32)).toUInt32 &&& Int32.toUInt32 31)).toInt32) &&& (1431655765 : Int32)))).toUInt32 >>> (((2 : Int32)).toUInt32 &&& Int32.toUInt32 31)).toInt32) &&& (858993459 : Int32))) + ((((((p0 - ((((p0).toUInt32 >>> (((1 : Int32)).toUInt32 &&& Int32.toUInt32 31)).toInt32) &&& (1431655765 : Int32))) &&& (858993459 : Int32)) + (((((p0 - ((((p0).toUInt32 >>> (((1 : Int32)).toUInt32 &&& Int32.toUInt32 31)).toInt32) &&& (1431655765 : Int32)))).toUInt32 >>> (((2 : Int32)).toUInt32 &&& Int32.toUInt32 31)).toInt32) &&& (858993459 : Int32)))).toUInt32 >>> (((4 : Int32)).toUInt32 &&& Int32.toUInt32 31)).toInt32)) &&& (252645135 : Int32)) + ((((((((p0 - ((((p0).toUInt32 >>> (((1 : Int32)).toUInt32 &&& Int32.toUInt32 31)).toInt32) &&& (1431655765 : Int32))) &&& (858993459 : Int32)) + (((((p0 - ((((p0).toUInt32 >>> (((1 : Int32)).toUInt32 &&& Int32.toUInt32 31)).toInt32) &&& (1431655765 : Int32)))).toUInt32 >>> (((2 : Int32)).toUInt32 &&& Int32.toUInt32 31)).toInt32) &&& (858993459 : Int32))) + ((((((p0 - ((((p0).toUInt32 >>> (((1 : Int32)).toUInt32 &&& Int32.toUInt32 31)).toInt32) &&& (1431655765 : Int32))) &&& (858993459 : Int32)) + (((((p0 - ((((p0).toUInt32 >>> (((1 : Int32)).toUInt32 &&& Int32.toUInt32 31)).toInt32) &&& (1431655765 : Int32)))).toUInt32 >>> (((2 : Int32)).toUInt32 &&& Int32.toUInt32 31)).toInt32) &&& (858993459 : Int32)))).toUInt32 >>> (((4 : Int32)).toUInt32 &&& Int32.toUInt32 31)).toInt32)) &&& (252645135 : Int32))).toUInt32 >>> (((8 : Int32)).toUInt32 &&& Int32.toUInt32 31)).toInt32))).toUInt32 >>> (((16 : Int32)).toUInt32 &&& Int32.toUInt32 31)).toInt32)))]) dJ6_bitCount_0f7a4_47 rfl (Nat.le_of_ble_eq_true rfl) rfl ?_
  refine aw_iload_n dJ6_bitCount_0f7a4_48 0 rfl rfl ?_
  refine aw_bipush (v := (63 : Int32)) dJ6_bitCount_0f7a4_49 (by decide) ?_
  refine aw_iand dJ6_bitCount_0f7a4_51 ?_
  cases hF
  exact aw_iret rfl dJ6_bitCount_0f7a4_52 rfl rfl rfl
def fX0_fewestWith (R : qR) (I : qI) (a0 : Nat) (p1 : Int32) (p2 : Int32) : Option (Int32) :=
  (R.1 a0 4).bind fun r1 =>
  (qrd I R r1 p2).bind fun x2 =>
  (fJ6_bitCount_0f7a4 R I (x2 &&& p1)).bind fun y3 =>
  (R.1 a0 5).bind fun r4 =>
  (qrd I R r4 (p1 ||| ((1 : Int32) <<< (p2 &&& 31)))).bind fun x5 =>
  some (y3 + x5)
set_option maxHeartbeats 4000000 in
set_option maxRecDepth 100000 in
theorem sX0_fewestWith {l : Launch} {G : qG} {R : qR} {I : qI} {a0 : Nat} {p1 : Int32} {p2 : Int32} {rv : Int32} (hW : qWT R) (ha0 : qok R a0 0) (hF : fX0_fewestWith R I a0 p1 p2 = some rv) : qMt l G mX0_fewestWith 2 [.ref (G.1 + a0), .int p1, .int p2] I R (some (.int rv)) I R := by
  unfold fX0_fewestWith at hF
  refine qMt_of (by decide) (Nat.le_of_ble_eq_true rfl) ⟨Nat.le_refl _, Nat.le_refl _⟩ ?_
  show AW _ 0 [(0, .ref (G.1 + a0)), (1, .int p1), (2, .int p2)] [] I R
  refine aw_aload_n dX0_fewestWith_0 0 rfl rfl ?_
  obtain ⟨r1, er1, hF⟩ := qbind hF
  have kr1 : qok R r1 9 := hW.get ha0 er1 rfl
  refine aw_getr fl_X0_15 (by decide) fg_X0_4 ha0 er1 rfl dX0_fewestWith_1 ?_
  refine aw_iload_n dX0_fewestWith_4 2 rfl rfl ?_
  obtain ⟨x2, ex2, hF⟩ := qbind hF
  refine aw_ialdq kr1 ex2 dX0_fewestWith_5 ?_
  refine aw_iload_n dX0_fewestWith_6 1 rfl rfl ?_
  refine aw_iand dX0_fewestWith_7 ?_
  obtain ⟨y3, ey3, hF⟩ := qbind hF
  refine aw_callSi (sJ6_bitCount_0f7a4 hW  ey3) cl_X0_60 rfl (qroomL (by decide) (by decide)) rfl (Nat.le_of_ble_eq_true rfl) dX0_fewestWith_8 rfl ?_
  refine aw_aload_n dX0_fewestWith_11 0 rfl rfl ?_
  obtain ⟨r4, er4, hF⟩ := qbind hF
  have kr4 : qok R r4 9 := hW.get ha0 er4 rfl
  refine aw_getr fl_X0_18 (by decide) fg_X0_5 ha0 er4 rfl dX0_fewestWith_12 ?_
  refine aw_iload_n dX0_fewestWith_15 1 rfl rfl ?_
  refine aw_iconst (v := (1 : Int32)) dX0_fewestWith_16 (by decide) ?_
  refine aw_iload_n dX0_fewestWith_17 2 rfl rfl ?_
  refine aw_ishl dX0_fewestWith_18 ?_
  refine aw_ior dX0_fewestWith_19 ?_
  obtain ⟨x5, ex5, hF⟩ := qbind hF
  refine aw_ialdq kr4 ex5 dX0_fewestWith_20 ?_
  refine aw_iadd dX0_fewestWith_21 ?_
  cases hF
  exact aw_iret rfl dX0_fewestWith_22 rfl rfl rfl
def cX0_fillFewest_30 (N : Nat) (R : qR) (I : qI) (b0 : Nat) (v2 : Int32) (v3 : Int32) (v4 : Int32) : Option ((Int32 × Int32) ⊕ (Int32)) :=
  if (I b0 3) ≤ v4 then
    (some (.inr v3))
  else
    (if ((v2 >>> (v4 &&& 31)) &&& (1 : Int32)) = 0 then
      ((fX0_fewestWith R I b0 v2 v4).bind fun y6 =>
      some (.inl ((if y6 < v3 then y6 else v3), (v4 + 1))))
    else
      (some (.inl (v3, (v4 + 1)))))
set_option maxHeartbeats 4000000 in
set_option maxRecDepth 100000 in
theorem tX0_fillFewest_30 {l : Launch} {G : qG} {N : Nat} {R : qR} {I : qI} {As : List Value} {rv : Option Value} {I1 : qI} {b0 : Nat} {v2 : Int32} (hW : qWT R) (hb0 : qok R b0 0) {o : Int32} (hx : AW (Zm l G mX0_fillFewest 3 As R rv I1 R) 66 [(0, .ref (G.1 + b0)), (2, .int v2), (3, .int o)] [] I R) : ∀ n s, qloop (fun s => cX0_fillFewest_30 N R I b0 v2 s.1 s.2) n s = some o → (match s with | (v3, v4) => AW (Zm l G mX0_fillFewest 3 As R rv I1 R) 30 [(0, .ref (G.1 + b0)), (2, .int v2), (3, .int v3), (4, .int v4)] [] I R) := by
  apply qloop_ind
  intro s x hF hc he
  obtain ⟨v3, v4⟩ := s
  change cX0_fillFewest_30 N R I b0 v2 v3 v4 = some x at hF
  unfold cX0_fillFewest_30 at hF
  show AW _ 30 [(0, .ref (G.1 + b0)), (2, .int v2), (3, .int v3), (4, .int v4)] [] I R
  refine aw_iload dX0_fillFewest_30 3 rfl ?_
  refine aw_aload_n dX0_fillFewest_32 0 rfl rfl ?_
  refine aw_geti fl_X0_21 (by decide) fg_X0_3 hb0 rfl dX0_fillFewest_33 ?_
  refine aw_icmp_ge (tgt := 66) dX0_fillFewest_36 (by decide) (fun c4 => ?_) (fun c4 => ?_)
  · rw [if_pos c4] at hF
    cases hF
    have hE := he _ rfl
    subst hE
    exact aw_sub [0, 1, 2] rfl hx
  · rw [if_neg c4] at hF
    refine aw_iload_n dX0_fillFewest_39 1 rfl rfl ?_
    refine aw_iload dX0_fillFewest_40 3 rfl ?_
    refine aw_ishr dX0_fillFewest_42 ?_
    refine aw_iconst (v := (1 : Int32)) dX0_fillFewest_43 (by decide) ?_
    refine aw_iand dX0_fillFewest_44 ?_
    refine aw_if_ne (tgt := 60) dX0_fillFewest_45 (by decide) (fun c5 => ?_) (fun c5 => ?_)
    · rw [if_neg c5] at hF
      refine aw_iinc (q := 3) (v := (v4 + 1)) (lv' := [(4, .int (v4 + 1)), (0, .ref (G.1 + b0)), (2, .int v2), (3, .int v3)]) dX0_fillFewest_60 rfl rfl (Nat.le_of_ble_eq_true rfl) rfl ?_
      refine aw_goto (tgt := 30) dX0_fillFewest_63 (by decide) ?_
      cases hF
      exact aw_sub [1, 2, 3, 0] rfl (hc (v3, (v4 + 1)) rfl)
    · rw [if_pos c5] at hF
      refine aw_iload_n dX0_fillFewest_48 2 rfl rfl ?_
      refine aw_aload_n dX0_fillFewest_49 0 rfl rfl ?_
      refine aw_iload_n dX0_fillFewest_50 1 rfl rfl ?_
      refine aw_iload dX0_fillFewest_51 3 rfl ?_
      obtain ⟨y6, ey6, hF⟩ := qbind hF
      refine aw_callVi (As := [.int v2, .int v4]) (sX0_fewestWith hW hb0 ey6) cl_X0_51 rfl (qroomL (by decide) (by decide)) rfl hb0 (Nat.le_of_ble_eq_true rfl) dX0_fillFewest_53 rfl ?_
      refine aw_minq cl_X0_55 rfl (Nat.le_of_ble_eq_true rfl) (by decide) dX0_fillFewest_56 ?_
      refine aw_istore_n (lv' := [(3, .int (if y6 < v3 then y6 else v3)), (0, .ref (G.1 + b0)), (2, .int v2), (4, .int v4)]) dX0_fillFewest_59 rfl (Nat.le_of_ble_eq_true rfl) rfl ?_
      refine aw_iinc (q := 3) (v := (v4 + 1)) (lv' := [(4, .int (v4 + 1)), (3, .int (if y6 < v3 then y6 else v3)), (0, .ref (G.1 + b0)), (2, .int v2)]) dX0_fillFewest_60 rfl rfl (Nat.le_of_ble_eq_true rfl) rfl ?_
      refine aw_goto (tgt := 30) dX0_fillFewest_63 (by decide) ?_
      cases hF
      exact aw_sub [2, 3, 1, 0] rfl (hc ((if y6 < v3 then y6 else v3), (v4 + 1)) rfl)
def cX0_fillFewest_20 (N : Nat) (R : qR) (b0 : Nat) (v2 : Int32) (I : qI) : Option ((Int32 × qI) ⊕ (qI)) :=
  if v2 < 0 then
    (some (.inr I))
  else
    ((qloop (fun s => cX0_fillFewest_30 N R I b0 v2 s.1 s.2) N ((36 : Int32), (0 : Int32))).bind fun o7 =>
    (R.1 b0 5).bind fun r8 =>
    (qwr I R r8 v2 o7).bind fun I9 =>
    some (.inl ((v2 + (-1)), I9)))
set_option maxHeartbeats 4000000 in
set_option maxRecDepth 100000 in
theorem tX0_fillFewest_20 {l : Launch} {G : qG} {N : Nat} {R : qR} {As : List Value} {rv : Option Value} {I1 : qI} {b0 : Nat} (hW : qWT R) (hb0 : qok R b0 0) {o : qI} (hx : AW (Zm l G mX0_fillFewest 3 As R rv I1 R) 79 [] [] o R) : ∀ n s, qloop (fun s => cX0_fillFewest_20 N R b0 s.1 s.2) n s = some o → (match s with | (v2, I) => AW (Zm l G mX0_fillFewest 3 As R rv I1 R) 20 [(0, .ref (G.1 + b0)), (2, .int v2)] [] I R) := by
  apply qloop_ind
  intro s x hF hc he
  obtain ⟨v2, I⟩ := s
  change cX0_fillFewest_20 N R b0 v2 I = some x at hF
  unfold cX0_fillFewest_20 at hF
  show AW _ 20 [(0, .ref (G.1 + b0)), (2, .int v2)] [] I R
  refine aw_iload_n dX0_fillFewest_20 1 rfl rfl ?_
  refine aw_if_lt (tgt := 79) dX0_fillFewest_21 (by decide) (fun c3 => ?_) (fun c3 => ?_)
  · rw [if_pos c3] at hF
    cases hF
    have hE := he _ rfl
    subst hE
    exact aw_sub [] rfl hx
  · rw [if_neg c3] at hF
    refine aw_bipush (v := (36 : Int32)) dX0_fillFewest_24 (by decide) ?_
    refine aw_istore_n (lv' := [(3, .int (36 : Int32)), (0, .ref (G.1 + b0)), (2, .int v2)]) dX0_fillFewest_26 rfl (Nat.le_of_ble_eq_true rfl) rfl ?_
    refine aw_iconst (v := (0 : Int32)) dX0_fillFewest_27 (by decide) ?_
    refine aw_istore (lv' := [(4, .int (0 : Int32)), (3, .int (36 : Int32)), (0, .ref (G.1 + b0)), (2, .int v2)]) dX0_fillFewest_28 (Nat.le_of_ble_eq_true rfl) rfl ?_
    obtain ⟨o7, eo7, hF⟩ := qbind hF
    refine aw_sub [2, 3, 1, 0] rfl (tX0_fillFewest_30 hW hb0 (o := o7) ?_ N ((36 : Int32), (0 : Int32)) eo7)
    show AW _ 66 [(0, .ref (G.1 + b0)), (2, .int v2), (3, .int o7)] [] I R
    refine aw_aload_n dX0_fillFewest_66 0 rfl rfl ?_
    obtain ⟨r8, er8, hF⟩ := qbind hF
    have kr8 : qok R r8 9 := hW.get hb0 er8 rfl
    refine aw_getr fl_X0_18 (by decide) fg_X0_5 hb0 er8 rfl dX0_fillFewest_67 ?_
    refine aw_iload_n dX0_fillFewest_70 1 rfl rfl ?_
    refine aw_iload_n dX0_fillFewest_71 2 rfl rfl ?_
    obtain ⟨I9, eI9, hF⟩ := qbind hF
    refine aw_iastq kr8 eI9 dX0_fillFewest_72 ?_
    refine aw_iinc (q := 1) (v := (v2 + (-1))) (lv' := [(2, .int (v2 + (-1))), (0, .ref (G.1 + b0)), (3, .int o7)]) dX0_fillFewest_73 rfl rfl (Nat.le_of_ble_eq_true rfl) rfl ?_
    refine aw_goto (tgt := 20) dX0_fillFewest_76 (by decide) ?_
    cases hF
    exact aw_sub [1, 0] rfl (hc ((v2 + (-1)), I9) rfl)
def fX0_fillFewest (N : Nat) (R : qR) (I : qI) (a0 : Nat) : Option (qI) :=
  (R.1 a0 5).bind fun r1 =>
  (qwr I R r1 (((1 : Int32) <<< ((I a0 3) &&& 31)) - (1 : Int32)) (0 : Int32)).bind fun I2 =>
  (qloop (fun s => cX0_fillFewest_20 N R a0 s.1 s.2) N (((((1 : Int32) <<< ((I a0 3) &&& 31)) - (1 : Int32)) - (1 : Int32)), I2)).bind fun o10 =>
  some o10
set_option maxHeartbeats 4000000 in
set_option maxRecDepth 100000 in
theorem sX0_fillFewest {l : Launch} {G : qG} {N : Nat} {R : qR} {I : qI} {a0 : Nat} {rI : qI} (hW : qWT R) (ha0 : qok R a0 0) (hF : fX0_fillFewest N R I a0 = some rI) : qMt l G mX0_fillFewest 3 [.ref (G.1 + a0)] I R (none) rI R := by
  unfold fX0_fillFewest at hF
  refine qMt_of (by decide) (Nat.le_of_ble_eq_true rfl) ⟨Nat.le_refl _, Nat.le_refl _⟩ ?_
  show AW _ 0 [(0, .ref (G.1 + a0))] [] I R
  refine aw_iconst (v := (1 : Int32)) dX0_fillFewest_0 (by decide) ?_
  refine aw_aload_n dX0_fillFewest_1 0 rfl rfl ?_
  refine aw_geti fl_X0_21 (by decide) fg_X0_3 ha0 rfl dX0_fillFewest_2 ?_
  refine aw_ishl dX0_fillFewest_5 ?_
  refine aw_iconst (v := (1 : Int32)) dX0_fillFewest_6 (by decide) ?_
  refine aw_isub dX0_fillFewest_7 ?_
  refine aw_istore_n (lv' := [(1, .int (((1 : Int32) <<< ((I a0 3) &&& 31)) - (1 : Int32))), (0, .ref (G.1 + a0))]) dX0_fillFewest_8 rfl (Nat.le_of_ble_eq_true rfl) rfl ?_
  refine aw_aload_n dX0_fillFewest_9 1 rfl rfl ?_
  obtain ⟨r1, er1, hF⟩ := qbind hF
  have kr1 : qok R r1 9 := hW.get ha0 er1 rfl
  refine aw_getr fl_X0_18 (by decide) fg_X0_5 ha0 er1 rfl dX0_fillFewest_10 ?_
  refine aw_iload_n dX0_fillFewest_13 0 rfl rfl ?_
  refine aw_iconst (v := (0 : Int32)) dX0_fillFewest_14 (by decide) ?_
  obtain ⟨I2, eI2, hF⟩ := qbind hF
  refine aw_iastq kr1 eI2 dX0_fillFewest_15 ?_
  refine aw_iload_n dX0_fillFewest_16 0 rfl rfl ?_
  refine aw_iconst (v := (1 : Int32)) dX0_fillFewest_17 (by decide) ?_
  refine aw_isub dX0_fillFewest_18 ?_
  refine aw_istore_n (lv' := [(2, .int ((((1 : Int32) <<< ((I a0 3) &&& 31)) - (1 : Int32)) - (1 : Int32))), (1, .int (((1 : Int32) <<< ((I a0 3) &&& 31)) - (1 : Int32))), (0, .ref (G.1 + a0))]) dX0_fillFewest_19 rfl (Nat.le_of_ble_eq_true rfl) rfl ?_
  obtain ⟨o10, eo10, hF⟩ := qbind hF
  refine aw_sub [2, 0] rfl (tX0_fillFewest_20 hW ha0 (o := o10) ?_ N (((((1 : Int32) <<< ((I a0 3) &&& 31)) - (1 : Int32)) - (1 : Int32)), I2) eo10)
  show AW _ 79 [] [] o10 R
  cases hF
  exact aw_vret rfl dX0_fillFewest_79 rfl rfl rfl
def cX0_firstBehind_2 (N : Nat) (R : qR) (I : qI) (b0 : Nat) (v1 : Int32) (v2 : Int32) : Option ((Int32) ⊕ (Int32)) :=
  if ((I b0 3) - (1 : Int32)) ≤ v2 then
    (some (.inr v2))
  else
    (if ((v1 >>> (v2 &&& 31)) &&& (1 : Int32)) = 0 then
      ((fX0_fewestWith R I b0 v1 v2).bind fun y3 =>
      (R.1 b0 5).bind fun r4 =>
      (qrd I R r4 v1).bind fun x5 =>
      if y3 = x5 then
        (some (.inr v2))
      else
        (some (.inl (v2 + 1))))
    else
      (some (.inl (v2 + 1))))
set_option maxHeartbeats 4000000 in
set_option maxRecDepth 100000 in
theorem tX0_firstBehind_2 {l : Launch} {G : qG} {N : Nat} {R : qR} {I : qI} {As : List Value} {rv : Option Value} {b0 : Nat} {v1 : Int32} (hW : qWT R) (hb0 : qok R b0 0) {o : Int32} (hx : AW (Zm l G mX0_firstBehind 3 As R rv I R) 41 [(2, .int o)] [] I R) : ∀ n s, qloop (fun s => cX0_firstBehind_2 N R I b0 v1 s) n s = some o → AW (Zm l G mX0_firstBehind 3 As R rv I R) 2 [(0, .ref (G.1 + b0)), (1, .int v1), (2, .int s)] [] I R := by
  apply qloop_ind
  intro s x hF hc he
  obtain ⟨v2, rfl⟩ : ∃ z, z = s := ⟨s, rfl⟩
  change cX0_firstBehind_2 N R I b0 v1 v2 = some x at hF
  unfold cX0_firstBehind_2 at hF
  show AW _ 2 [(0, .ref (G.1 + b0)), (1, .int v1), (2, .int v2)] [] I R
  refine aw_iload_n dX0_firstBehind_2 2 rfl rfl ?_
  refine aw_aload_n dX0_firstBehind_3 0 rfl rfl ?_
  refine aw_geti fl_X0_21 (by decide) fg_X0_3 hb0 rfl dX0_firstBehind_4 ?_
  refine aw_iconst (v := (1 : Int32)) dX0_firstBehind_7 (by decide) ?_
  refine aw_isub dX0_firstBehind_8 ?_
  refine aw_icmp_ge (tgt := 41) dX0_firstBehind_9 (by decide) (fun c1 => ?_) (fun c1 => ?_)
  · rw [if_pos c1] at hF
    cases hF
    have hE := he _ rfl
    subst hE
    exact aw_sub [2] rfl hx
  · rw [if_neg c1] at hF
    refine aw_iload_n dX0_firstBehind_12 1 rfl rfl ?_
    refine aw_iload_n dX0_firstBehind_13 2 rfl rfl ?_
    refine aw_ishr dX0_firstBehind_14 ?_
    refine aw_iconst (v := (1 : Int32)) dX0_firstBehind_15 (by decide) ?_
    refine aw_iand dX0_firstBehind_16 ?_
    refine aw_if_ne (tgt := 35) dX0_firstBehind_17 (by decide) (fun c2 => ?_) (fun c2 => ?_)
    · rw [if_neg c2] at hF
      refine aw_iinc (q := 2) (v := (v2 + 1)) (lv' := [(2, .int (v2 + 1)), (0, .ref (G.1 + b0)), (1, .int v1)]) dX0_firstBehind_35 rfl rfl (Nat.le_of_ble_eq_true rfl) rfl ?_
      refine aw_goto (tgt := 2) dX0_firstBehind_38 (by decide) ?_
      cases hF
      exact aw_sub [1, 2, 0] rfl (hc (v2 + 1) rfl)
    · rw [if_pos c2] at hF
      refine aw_aload_n dX0_firstBehind_20 0 rfl rfl ?_
      refine aw_iload_n dX0_firstBehind_21 1 rfl rfl ?_
      refine aw_iload_n dX0_firstBehind_22 2 rfl rfl ?_
      obtain ⟨y3, ey3, hF⟩ := qbind hF
      refine aw_callVi (As := [.int v1, .int v2]) (sX0_fewestWith hW hb0 ey3) cl_X0_51 rfl (qroomL (by decide) (by decide)) rfl hb0 (Nat.le_of_ble_eq_true rfl) dX0_firstBehind_23 rfl ?_
      refine aw_aload_n dX0_firstBehind_26 0 rfl rfl ?_
      obtain ⟨r4, er4, hF⟩ := qbind hF
      have kr4 : qok R r4 9 := hW.get hb0 er4 rfl
      refine aw_getr fl_X0_18 (by decide) fg_X0_5 hb0 er4 rfl dX0_firstBehind_27 ?_
      refine aw_iload_n dX0_firstBehind_30 1 rfl rfl ?_
      obtain ⟨x5, ex5, hF⟩ := qbind hF
      refine aw_ialdq kr4 ex5 dX0_firstBehind_31 ?_
      refine aw_icmp_eq (tgt := 41) dX0_firstBehind_32 (by decide) (fun c6 => ?_) (fun c6 => ?_)
      · rw [if_pos c6] at hF
        cases hF
        have hE := he _ rfl
        subst hE
        exact aw_sub [2] rfl hx
      · rw [if_neg c6] at hF
        refine aw_iinc (q := 2) (v := (v2 + 1)) (lv' := [(2, .int (v2 + 1)), (0, .ref (G.1 + b0)), (1, .int v1)]) dX0_firstBehind_35 rfl rfl (Nat.le_of_ble_eq_true rfl) rfl ?_
        refine aw_goto (tgt := 2) dX0_firstBehind_38 (by decide) ?_
        cases hF
        exact aw_sub [1, 2, 0] rfl (hc (v2 + 1) rfl)
def fX0_firstBehind (N : Nat) (R : qR) (I : qI) (a0 : Nat) (p1 : Int32) : Option (Int32) :=
  (qloop (fun s => cX0_firstBehind_2 N R I a0 p1 s) N (0 : Int32)).bind fun o7 =>
  some o7
set_option maxHeartbeats 4000000 in
set_option maxRecDepth 100000 in
theorem sX0_firstBehind {l : Launch} {G : qG} {N : Nat} {R : qR} {I : qI} {a0 : Nat} {p1 : Int32} {rv : Int32} (hW : qWT R) (ha0 : qok R a0 0) (hF : fX0_firstBehind N R I a0 p1 = some rv) : qMt l G mX0_firstBehind 3 [.ref (G.1 + a0), .int p1] I R (some (.int rv)) I R := by
  unfold fX0_firstBehind at hF
  refine qMt_of (by decide) (Nat.le_of_ble_eq_true rfl) ⟨Nat.le_refl _, Nat.le_refl _⟩ ?_
  show AW _ 0 [(0, .ref (G.1 + a0)), (1, .int p1)] [] I R
  refine aw_iconst (v := (0 : Int32)) dX0_firstBehind_0 (by decide) ?_
  refine aw_istore_n (lv' := [(2, .int (0 : Int32)), (0, .ref (G.1 + a0)), (1, .int p1)]) dX0_firstBehind_1 rfl (Nat.le_of_ble_eq_true rfl) rfl ?_
  obtain ⟨o7, eo7, hF⟩ := qbind hF
  refine aw_sub [1, 2, 0] rfl (tX0_firstBehind_2 hW ha0 (o := o7) ?_ N (0 : Int32) eo7)
  show AW _ 41 [(2, .int o7)] [] I R
  refine aw_iload_n dX0_firstBehind_41 0 rfl rfl ?_
  cases hF
  exact aw_iret rfl dX0_firstBehind_42 rfl rfl rfl
