def cX8_isBreach_15 (N : Nat) (R : qR) (I : qI) (b0 : Nat) (v1 : Int32) (v2 : Int32) (v3 : Int32) (v4 : Int32) : Option ((Int32) ⊕ ((Unit) ⊕ (Int32))) :=
  (R.1 b0 13).bind fun r4 =>
  (qrd I R r4 v2).bind fun x5 =>
  if x5 ≤ v4 then
    (some (.inr (.inl ())))
  else
    ((R.1 b0 14).bind fun r7 =>
    (qrd I R r7 (((7 : Int32) * v1) + v3)).bind fun x8 =>
    (qrd I R r7 (((7 : Int32) * v2) + v4)).bind fun x9 =>
    if x8 = x9 then
      ((fX8_leaves R I b0 v2 v4).bind fun y11 =>
      (fX8_leaves R I b0 v1 v3).bind fun y12 =>
      if y12 ≤ y11 then
        (some (.inl (v4 + 1)))
      else
        (some (.inr (.inr (1 : Int32)))))
    else
      (some (.inl (v4 + 1))))
set_option maxHeartbeats 4000000 in
set_option maxRecDepth 100000 in
theorem tX8_isBreach_15 {l : Launch} {G : qG} {N : Nat} {R : qR} {I : qI} {As : List Value} {rv : Option Value} {b0 : Nat} {v1 : Int32} {v2 : Int32} {v3 : Int32} (hW : qWT R) (hb0 : qok R b0 8) {o : (Unit) ⊕ (Int32)} (hx : match o with | .inl _ => AW (Zm l G mX8_isBreach 2 As R rv I R) 76 [(0, .ref (G.1 + b0)), (1, .int v1), (2, .int v2), (3, .int v3)] [] I R | .inr rrv => rv = some (.int rrv) ∧ True) : ∀ n s, qloop (fun s => cX8_isBreach_15 N R I b0 v1 v2 v3 s) n s = some o → AW (Zm l G mX8_isBreach 2 As R rv I R) 15 [(0, .ref (G.1 + b0)), (1, .int v1), (2, .int v2), (3, .int v3), (4, .int s)] [] I R := by
  apply qloop_ind
  intro s x hF hc he
  obtain ⟨v4, rfl⟩ : ∃ z, z = s := ⟨s, rfl⟩
  change cX8_isBreach_15 N R I b0 v1 v2 v3 v4 = some x at hF
  unfold cX8_isBreach_15 at hF
  show AW _ 15 [(0, .ref (G.1 + b0)), (1, .int v1), (2, .int v2), (3, .int v3), (4, .int v4)] [] I R
  refine aw_iload dX8_isBreach_15 4 rfl ?_
  refine aw_aload_n dX8_isBreach_17 0 rfl rfl ?_
  obtain ⟨r4, er4, hF⟩ := qbind hF
  have kr4 : qok R r4 9 := hW.get hb0 er4 rfl
  refine aw_getr fl_X8_38 (by decide) fg_X8_13 hb0 er4 rfl dX8_isBreach_18 ?_
  refine aw_iload_n dX8_isBreach_21 2 rfl rfl ?_
  obtain ⟨x5, ex5, hF⟩ := qbind hF
  refine aw_ialdq kr4 ex5 dX8_isBreach_22 ?_
  refine aw_icmp_ge (tgt := 76) dX8_isBreach_23 (by decide) (fun c6 => ?_) (fun c6 => ?_)
  · rw [if_pos c6] at hF
    cases hF
    have hE := he _ rfl
    subst hE
    exact aw_sub [0, 1, 2, 3] rfl hx
  · rw [if_neg c6] at hF
    refine aw_aload_n dX8_isBreach_26 0 rfl rfl ?_
    obtain ⟨r7, er7, hF⟩ := qbind hF
    have kr7 : qok R r7 9 := hW.get hb0 er7 rfl
    refine aw_getr fl_X8_41 (by decide) fg_X8_14 hb0 er7 rfl dX8_isBreach_27 ?_
    refine aw_bipush (v := (7 : Int32)) dX8_isBreach_30 (by decide) ?_
    refine aw_iload_n dX8_isBreach_32 1 rfl rfl ?_
    refine aw_imul dX8_isBreach_33 ?_
    refine aw_iload_n dX8_isBreach_34 3 rfl rfl ?_
    refine aw_iadd dX8_isBreach_35 ?_
    obtain ⟨x8, ex8, hF⟩ := qbind hF
    refine aw_ialdq kr7 ex8 dX8_isBreach_36 ?_
    refine aw_aload_n dX8_isBreach_37 0 rfl rfl ?_
    refine aw_getr fl_X8_41 (by decide) fg_X8_14 hb0 er7 rfl dX8_isBreach_38 ?_
    refine aw_bipush (v := (7 : Int32)) dX8_isBreach_41 (by decide) ?_
    refine aw_iload_n dX8_isBreach_43 2 rfl rfl ?_
    refine aw_imul dX8_isBreach_44 ?_
    refine aw_iload dX8_isBreach_45 4 rfl ?_
    refine aw_iadd dX8_isBreach_47 ?_
    obtain ⟨x9, ex9, hF⟩ := qbind hF
    refine aw_ialdq kr7 ex9 dX8_isBreach_48 ?_
    refine aw_icmp_ne (tgt := 70) dX8_isBreach_49 (by decide) (fun c10 => ?_) (fun c10 => ?_)
    · rw [if_neg c10] at hF
      refine aw_iinc (q := 4) (v := (v4 + 1)) (lv' := [(4, .int (v4 + 1)), (0, .ref (G.1 + b0)), (1, .int v1), (2, .int v2), (3, .int v3)]) dX8_isBreach_70 rfl rfl (Nat.le_of_ble_eq_true rfl) rfl ?_
      refine aw_goto (tgt := 15) dX8_isBreach_73 (by decide) ?_
      cases hF
      exact aw_sub [1, 2, 3, 4, 0] rfl (hc (v4 + 1) rfl)
    · rw [if_pos c10] at hF
      refine aw_aload_n dX8_isBreach_52 0 rfl rfl ?_
      refine aw_iload_n dX8_isBreach_53 2 rfl rfl ?_
      refine aw_iload dX8_isBreach_54 4 rfl ?_
      obtain ⟨y11, ey11, hF⟩ := qbind hF
      refine aw_callVi (As := [.int v2, .int v4]) (sX8_leaves hW hb0 ey11) cl_X8_136 rfl (qroomL (by decide) (by decide)) rfl hb0 (Nat.le_of_ble_eq_true rfl) dX8_isBreach_56 rfl ?_
      refine aw_aload_n dX8_isBreach_59 0 rfl rfl ?_
      refine aw_iload_n dX8_isBreach_60 1 rfl rfl ?_
      refine aw_iload_n dX8_isBreach_61 3 rfl rfl ?_
      obtain ⟨y12, ey12, hF⟩ := qbind hF
      refine aw_callVi (As := [.int v1, .int v3]) (sX8_leaves hW hb0 ey12) cl_X8_136 rfl (qroomL (by decide) (by decide)) rfl hb0 (Nat.le_of_ble_eq_true rfl) dX8_isBreach_62 rfl ?_
      refine aw_icmp_ge (tgt := 70) dX8_isBreach_65 (by decide) (fun c13 => ?_) (fun c13 => ?_)
      · rw [if_pos c13] at hF
        refine aw_iinc (q := 4) (v := (v4 + 1)) (lv' := [(4, .int (v4 + 1)), (0, .ref (G.1 + b0)), (1, .int v1), (2, .int v2), (3, .int v3)]) dX8_isBreach_70 rfl rfl (Nat.le_of_ble_eq_true rfl) rfl ?_
        refine aw_goto (tgt := 15) dX8_isBreach_73 (by decide) ?_
        cases hF
        exact aw_sub [1, 2, 3, 4, 0] rfl (hc (v4 + 1) rfl)
      · rw [if_neg c13] at hF
        refine aw_iconst (v := (1 : Int32)) dX8_isBreach_68 (by decide) ?_
        cases hF
        have hE := he _ rfl
        subst hE
        exact aw_zret rfl (by decide) dX8_isBreach_69 hx.1 rfl rfl
def cX8_isBreach_2 (N : Nat) (R : qR) (I : qI) (b0 : Nat) (v1 : Int32) (v2 : Int32) (v3 : Int32) : Option ((Int32) ⊕ ((Unit) ⊕ (Int32))) :=
  (R.1 b0 13).bind fun r1 =>
  (qrd I R r1 v1).bind fun x2 =>
  if x2 ≤ v3 then
    (some (.inr (.inl ())))
  else
    ((qloop (fun s => cX8_isBreach_15 N R I b0 v1 v2 v3 s) N (0 : Int32)).bind fun o14 =>
    qx o14 (fun e15 =>
      some (.inl (v3 + 1))) (fun q16 => some (.inr (.inr q16))))
set_option maxHeartbeats 4000000 in
set_option maxRecDepth 100000 in
theorem tX8_isBreach_2 {l : Launch} {G : qG} {N : Nat} {R : qR} {I : qI} {As : List Value} {rv : Option Value} {b0 : Nat} {v1 : Int32} {v2 : Int32} (hW : qWT R) (hb0 : qok R b0 8) {o : (Unit) ⊕ (Int32)} (hx : match o with | .inl _ => AW (Zm l G mX8_isBreach 2 As R rv I R) 82 [] [] I R | .inr rrv => rv = some (.int rrv) ∧ True) : ∀ n s, qloop (fun s => cX8_isBreach_2 N R I b0 v1 v2 s) n s = some o → AW (Zm l G mX8_isBreach 2 As R rv I R) 2 [(0, .ref (G.1 + b0)), (1, .int v1), (2, .int v2), (3, .int s)] [] I R := by
  apply qloop_ind
  intro s x hF hc he
  obtain ⟨v3, rfl⟩ : ∃ z, z = s := ⟨s, rfl⟩
  change cX8_isBreach_2 N R I b0 v1 v2 v3 = some x at hF
  unfold cX8_isBreach_2 at hF
  show AW _ 2 [(0, .ref (G.1 + b0)), (1, .int v1), (2, .int v2), (3, .int v3)] [] I R
  refine aw_iload_n dX8_isBreach_2 3 rfl rfl ?_
  refine aw_aload_n dX8_isBreach_3 0 rfl rfl ?_
  obtain ⟨r1, er1, hF⟩ := qbind hF
  have kr1 : qok R r1 9 := hW.get hb0 er1 rfl
  refine aw_getr fl_X8_38 (by decide) fg_X8_13 hb0 er1 rfl dX8_isBreach_4 ?_
  refine aw_iload_n dX8_isBreach_7 1 rfl rfl ?_
  obtain ⟨x2, ex2, hF⟩ := qbind hF
  refine aw_ialdq kr1 ex2 dX8_isBreach_8 ?_
  refine aw_icmp_ge (tgt := 82) dX8_isBreach_9 (by decide) (fun c3 => ?_) (fun c3 => ?_)
  · rw [if_pos c3] at hF
    cases hF
    have hE := he _ rfl
    subst hE
    exact aw_sub [] rfl hx
  · rw [if_neg c3] at hF
    refine aw_iconst (v := (0 : Int32)) dX8_isBreach_12 (by decide) ?_
    refine aw_istore (lv' := [(4, .int (0 : Int32)), (0, .ref (G.1 + b0)), (1, .int v1), (2, .int v2), (3, .int v3)]) dX8_isBreach_13 (Nat.le_of_ble_eq_true rfl) rfl ?_
    obtain ⟨o14, eo14, hF⟩ := qbind hF
    refine aw_sub [1, 2, 3, 4, 0] rfl (tX8_isBreach_15 hW hb0 (o := o14) ?_ N (0 : Int32) eo14)
    cases o14 with
    | inl e15 =>
      replace hF := qxl hF
      show AW _ 76 [(0, .ref (G.1 + b0)), (1, .int v1), (2, .int v2), (3, .int v3)] [] I R
      refine aw_iinc (q := 3) (v := (v3 + 1)) (lv' := [(3, .int (v3 + 1)), (0, .ref (G.1 + b0)), (1, .int v1), (2, .int v2)]) dX8_isBreach_76 rfl rfl (Nat.le_of_ble_eq_true rfl) rfl ?_
      refine aw_goto (tgt := 2) dX8_isBreach_79 (by decide) ?_
      cases hF
      exact aw_sub [1, 2, 3, 0] rfl (hc (v3 + 1) rfl)
    | inr q16 =>
      replace hF := qxr hF
      cases hF
      have hE := he _ rfl
      subst hE
      exact hx
def fX8_isBreach (N : Nat) (R : qR) (I : qI) (a0 : Nat) (p1 : Int32) (p2 : Int32) : Option (Int32) :=
  (qloop (fun s => cX8_isBreach_2 N R I a0 p1 p2 s) N (0 : Int32)).bind fun o17 =>
  qx o17 (fun e18 =>
    some (0 : Int32)) (fun q19 => some q19)
set_option maxHeartbeats 4000000 in
set_option maxRecDepth 100000 in
theorem sX8_isBreach {l : Launch} {G : qG} {N : Nat} {R : qR} {I : qI} {a0 : Nat} {p1 : Int32} {p2 : Int32} {rv : Int32} (hW : qWT R) (ha0 : qok R a0 8) (hF : fX8_isBreach N R I a0 p1 p2 = some rv) : qMt l G mX8_isBreach 2 [.ref (G.1 + a0), .int p1, .int p2] I R (some (.int rv)) I R := by
  unfold fX8_isBreach at hF
  refine qMt_of (by decide) (Nat.le_of_ble_eq_true rfl) ⟨Nat.le_refl _, Nat.le_refl _⟩ ?_
  show AW _ 0 [(0, .ref (G.1 + a0)), (1, .int p1), (2, .int p2)] [] I R
  refine aw_iconst (v := (0 : Int32)) dX8_isBreach_0 (by decide) ?_
  refine aw_istore_n (lv' := [(3, .int (0 : Int32)), (0, .ref (G.1 + a0)), (1, .int p1), (2, .int p2)]) dX8_isBreach_1 rfl (Nat.le_of_ble_eq_true rfl) rfl ?_
  obtain ⟨o17, eo17, hF⟩ := qbind hF
  refine aw_sub [1, 2, 3, 0] rfl (tX8_isBreach_2 hW ha0 (o := o17) ?_ N (0 : Int32) eo17)
  cases o17 with
  | inl e18 =>
    replace hF := qxl hF
    show AW _ 82 [] [] I R
    refine aw_iconst (v := (0 : Int32)) dX8_isBreach_82 (by decide) ?_
    cases hF
    exact aw_zret rfl (by decide) dX8_isBreach_83 rfl rfl rfl
  | inr q19 =>
    replace hF := qxr hF
    cases hF
    exact ⟨rfl, trivial⟩
def cX8_breachesOf_17 (N : Nat) (R : qR) (I : qI) (b0 : Nat) (b1 : Nat) (v3 : Int32) (v2 : Int32) (v4 : Int32) : Option ((Int32 × Int32) ⊕ (Int32)) :=
  if (I b0 10) ≤ v4 then
    (some (.inr v2))
  else
    ((qrd I R b1 v3).bind fun x3 =>
    (qrd I R b1 v4).bind fun x4 =>
    (fX8_isBreach N R I b0 x3 x4).bind fun y5 =>
    if y5 = 0 then
      (some (.inl (v2, (v4 + 1))))
    else
      (some (.inl ((v2 + (1 : Int32)), (v4 + 1)))))
set_option maxHeartbeats 4000000 in
set_option maxRecDepth 100000 in
theorem tX8_breachesOf_17 {l : Launch} {G : qG} {N : Nat} {R : qR} {I : qI} {As : List Value} {rv : Option Value} {b0 : Nat} {b1 : Nat} {v3 : Int32} (hW : qWT R) (hb0 : qok R b0 8) (hb1 : qok R b1 9) {o : Int32} (hx : AW (Zm l G mX8_breachesOf 3 As R rv I R) 50 [(0, .ref (G.1 + b0)), (1, .ref (G.1 + b1)), (2, .int o), (3, .int v3)] [] I R) : ∀ n s, qloop (fun s => cX8_breachesOf_17 N R I b0 b1 v3 s.1 s.2) n s = some o → (match s with | (v2, v4) => AW (Zm l G mX8_breachesOf 3 As R rv I R) 17 [(0, .ref (G.1 + b0)), (1, .ref (G.1 + b1)), (2, .int v2), (3, .int v3), (4, .int v4)] [] I R) := by
  apply qloop_ind
  intro s x hF hc he
  obtain ⟨v2, v4⟩ := s
  change cX8_breachesOf_17 N R I b0 b1 v3 v2 v4 = some x at hF
  unfold cX8_breachesOf_17 at hF
  show AW _ 17 [(0, .ref (G.1 + b0)), (1, .ref (G.1 + b1)), (2, .int v2), (3, .int v3), (4, .int v4)] [] I R
  refine aw_iload dX8_breachesOf_17 4 rfl ?_
  refine aw_aload_n dX8_breachesOf_19 0 rfl rfl ?_
  refine aw_geti fl_X8_120 (by decide) fg_X8_10 hb0 rfl dX8_breachesOf_20 ?_
  refine aw_icmp_ge (tgt := 50) dX8_breachesOf_23 (by decide) (fun c2 => ?_) (fun c2 => ?_)
  · rw [if_pos c2] at hF
    cases hF
    have hE := he _ rfl
    subst hE
    exact aw_sub [0, 1, 2, 3] rfl hx
  · rw [if_neg c2] at hF
    refine aw_aload_n dX8_breachesOf_26 0 rfl rfl ?_
    refine aw_aload_n dX8_breachesOf_27 1 rfl rfl ?_
    refine aw_iload_n dX8_breachesOf_28 3 rfl rfl ?_
    obtain ⟨x3, ex3, hF⟩ := qbind hF
    refine aw_ialdq hb1 ex3 dX8_breachesOf_29 ?_
    refine aw_aload_n dX8_breachesOf_30 1 rfl rfl ?_
    refine aw_iload dX8_breachesOf_31 4 rfl ?_
    obtain ⟨x4, ex4, hF⟩ := qbind hF
    refine aw_ialdq hb1 ex4 dX8_breachesOf_33 ?_
    obtain ⟨y5, ey5, hF⟩ := qbind hF
    refine aw_callVi (As := [.int x3, .int x4]) (sX8_isBreach hW hb0 ey5) cl_X8_139 rfl (qroomL (by decide) (by decide)) rfl hb0 (Nat.le_of_ble_eq_true rfl) dX8_breachesOf_34 rfl ?_
    refine aw_if_eq (tgt := 44) dX8_breachesOf_37 (by decide) (fun c6 => ?_) (fun c6 => ?_)
    · rw [if_pos c6] at hF
      refine aw_iinc (q := 4) (v := (v4 + 1)) (lv' := [(4, .int (v4 + 1)), (0, .ref (G.1 + b0)), (1, .ref (G.1 + b1)), (2, .int v2), (3, .int v3)]) dX8_breachesOf_44 rfl rfl (Nat.le_of_ble_eq_true rfl) rfl ?_
      refine aw_goto (tgt := 17) dX8_breachesOf_47 (by decide) ?_
      cases hF
      exact aw_sub [1, 2, 3, 4, 0] rfl (hc (v2, (v4 + 1)) rfl)
    · rw [if_neg c6] at hF
      refine aw_iload_n dX8_breachesOf_40 2 rfl rfl ?_
      refine aw_iconst (v := (1 : Int32)) dX8_breachesOf_41 (by decide) ?_
      refine aw_iadd dX8_breachesOf_42 ?_
      refine aw_istore_n (lv' := [(2, .int (v2 + (1 : Int32))), (0, .ref (G.1 + b0)), (1, .ref (G.1 + b1)), (3, .int v3), (4, .int v4)]) dX8_breachesOf_43 rfl (Nat.le_of_ble_eq_true rfl) rfl ?_
      refine aw_iinc (q := 4) (v := (v4 + 1)) (lv' := [(4, .int (v4 + 1)), (2, .int (v2 + (1 : Int32))), (0, .ref (G.1 + b0)), (1, .ref (G.1 + b1)), (3, .int v3)]) dX8_breachesOf_44 rfl rfl (Nat.le_of_ble_eq_true rfl) rfl ?_
      refine aw_goto (tgt := 17) dX8_breachesOf_47 (by decide) ?_
      cases hF
      exact aw_sub [2, 3, 1, 4, 0] rfl (hc ((v2 + (1 : Int32)), (v4 + 1)) rfl)
def cX8_breachesOf_4 (N : Nat) (R : qR) (I : qI) (b0 : Nat) (b1 : Nat) (v2 : Int32) (v3 : Int32) : Option ((Int32 × Int32) ⊕ (Int32)) :=
  if (I b0 10) ≤ v3 then
    (some (.inr v2))
  else
    ((qloop (fun s => cX8_breachesOf_17 N R I b0 b1 v3 s.1 s.2) N (v2, (v3 + (1 : Int32)))).bind fun o7 =>
    some (.inl (o7, (v3 + 1))))
set_option maxHeartbeats 4000000 in
set_option maxRecDepth 100000 in
theorem tX8_breachesOf_4 {l : Launch} {G : qG} {N : Nat} {R : qR} {I : qI} {As : List Value} {rv : Option Value} {b0 : Nat} {b1 : Nat} (hW : qWT R) (hb0 : qok R b0 8) (hb1 : qok R b1 9) {o : Int32} (hx : AW (Zm l G mX8_breachesOf 3 As R rv I R) 56 [(2, .int o)] [] I R) : ∀ n s, qloop (fun s => cX8_breachesOf_4 N R I b0 b1 s.1 s.2) n s = some o → (match s with | (v2, v3) => AW (Zm l G mX8_breachesOf 3 As R rv I R) 4 [(0, .ref (G.1 + b0)), (1, .ref (G.1 + b1)), (2, .int v2), (3, .int v3)] [] I R) := by
  apply qloop_ind
  intro s x hF hc he
  obtain ⟨v2, v3⟩ := s
  change cX8_breachesOf_4 N R I b0 b1 v2 v3 = some x at hF
  unfold cX8_breachesOf_4 at hF
  show AW _ 4 [(0, .ref (G.1 + b0)), (1, .ref (G.1 + b1)), (2, .int v2), (3, .int v3)] [] I R
  refine aw_iload_n dX8_breachesOf_4 3 rfl rfl ?_
  refine aw_aload_n dX8_breachesOf_5 0 rfl rfl ?_
  refine aw_geti fl_X8_120 (by decide) fg_X8_10 hb0 rfl dX8_breachesOf_6 ?_
  refine aw_icmp_ge (tgt := 56) dX8_breachesOf_9 (by decide) (fun c1 => ?_) (fun c1 => ?_)
  · rw [if_pos c1] at hF
    cases hF
    have hE := he _ rfl
    subst hE
    exact aw_sub [2] rfl hx
  · rw [if_neg c1] at hF
    refine aw_iload_n dX8_breachesOf_12 3 rfl rfl ?_
    refine aw_iconst (v := (1 : Int32)) dX8_breachesOf_13 (by decide) ?_
    refine aw_iadd dX8_breachesOf_14 ?_
    refine aw_istore (lv' := [(4, .int (v3 + (1 : Int32))), (0, .ref (G.1 + b0)), (1, .ref (G.1 + b1)), (2, .int v2), (3, .int v3)]) dX8_breachesOf_15 (Nat.le_of_ble_eq_true rfl) rfl ?_
    obtain ⟨o7, eo7, hF⟩ := qbind hF
    refine aw_sub [1, 2, 3, 4, 0] rfl (tX8_breachesOf_17 hW hb0 hb1 (o := o7) ?_ N (v2, (v3 + (1 : Int32))) eo7)
    show AW _ 50 [(0, .ref (G.1 + b0)), (1, .ref (G.1 + b1)), (2, .int o7), (3, .int v3)] [] I R
    refine aw_iinc (q := 3) (v := (v3 + 1)) (lv' := [(3, .int (v3 + 1)), (0, .ref (G.1 + b0)), (1, .ref (G.1 + b1)), (2, .int o7)]) dX8_breachesOf_50 rfl rfl (Nat.le_of_ble_eq_true rfl) rfl ?_
    refine aw_goto (tgt := 4) dX8_breachesOf_53 (by decide) ?_
    cases hF
    exact aw_sub [1, 2, 3, 0] rfl (hc (o7, (v3 + 1)) rfl)
def fX8_breachesOf (N : Nat) (R : qR) (I : qI) (a0 : Nat) (a1 : Nat) : Option (Int32) :=
  (qloop (fun s => cX8_breachesOf_4 N R I a0 a1 s.1 s.2) N ((0 : Int32), (0 : Int32))).bind fun o8 =>
  some o8
set_option maxHeartbeats 4000000 in
set_option maxRecDepth 100000 in
theorem sX8_breachesOf {l : Launch} {G : qG} {N : Nat} {R : qR} {I : qI} {a0 : Nat} {a1 : Nat} {rv : Int32} (hW : qWT R) (ha0 : qok R a0 8) (ha1 : qok R a1 9) (hF : fX8_breachesOf N R I a0 a1 = some rv) : qMt l G mX8_breachesOf 3 [.ref (G.1 + a0), .ref (G.1 + a1)] I R (some (.int rv)) I R := by
  unfold fX8_breachesOf at hF
  refine qMt_of (by decide) (Nat.le_of_ble_eq_true rfl) ⟨Nat.le_refl _, Nat.le_refl _⟩ ?_
  show AW _ 0 [(0, .ref (G.1 + a0)), (1, .ref (G.1 + a1))] [] I R
  refine aw_iconst (v := (0 : Int32)) dX8_breachesOf_0 (by decide) ?_
  refine aw_istore_n (lv' := [(2, .int (0 : Int32)), (0, .ref (G.1 + a0)), (1, .ref (G.1 + a1))]) dX8_breachesOf_1 rfl (Nat.le_of_ble_eq_true rfl) rfl ?_
  refine aw_iconst (v := (0 : Int32)) dX8_breachesOf_2 (by decide) ?_
  refine aw_istore_n (lv' := [(3, .int (0 : Int32)), (2, .int (0 : Int32)), (0, .ref (G.1 + a0)), (1, .ref (G.1 + a1))]) dX8_breachesOf_3 rfl (Nat.le_of_ble_eq_true rfl) rfl ?_
  obtain ⟨o8, eo8, hF⟩ := qbind hF
  refine aw_sub [2, 3, 1, 0] rfl (tX8_breachesOf_4 hW ha0 ha1 (o := o8) ?_ N ((0 : Int32), (0 : Int32)) eo8)
  show AW _ 56 [(2, .int o8)] [] I R
  refine aw_iload_n dX8_breachesOf_56 0 rfl rfl ?_
  cases hF
  exact aw_iret rfl dX8_breachesOf_57 rfl rfl rfl
def fX8_swap (R : qR) (I : qI) (a0 : Nat) (p1 : Int32) (p2 : Int32) : Option (qI) :=
  (R.1 a0 22).bind fun r1 =>
  (qrd I R r1 p1).bind fun x2 =>
  (qrd I R r1 p2).bind fun x3 =>
  (qwr I R r1 p1 x3).bind fun I4 =>
  (qwr I4 R r1 p2 x2).bind fun I5 =>
  some I5
set_option maxHeartbeats 4000000 in
set_option maxRecDepth 100000 in
theorem sX8_swap {l : Launch} {G : qG} {R : qR} {I : qI} {a0 : Nat} {p1 : Int32} {p2 : Int32} {rI : qI} (hW : qWT R) (ha0 : qok R a0 8) (hF : fX8_swap R I a0 p1 p2 = some rI) : qMt l G mX8_swap 1 [.ref (G.1 + a0), .int p1, .int p2] I R (none) rI R := by
  unfold fX8_swap at hF
  refine qMt_of (by decide) (Nat.le_of_ble_eq_true rfl) ⟨Nat.le_refl _, Nat.le_refl _⟩ ?_
  show AW _ 0 [(0, .ref (G.1 + a0)), (1, .int p1), (2, .int p2)] [] I R
  refine aw_aload_n dX8_swap_0 0 rfl rfl ?_
  obtain ⟨r1, er1, hF⟩ := qbind hF
  have kr1 : qok R r1 9 := hW.get ha0 er1 rfl
  refine aw_getr fl_X8_63 (by decide) fg_X8_22 ha0 er1 rfl dX8_swap_1 ?_
  refine aw_iload_n dX8_swap_4 1 rfl rfl ?_
  obtain ⟨x2, ex2, hF⟩ := qbind hF
  refine aw_ialdq kr1 ex2 dX8_swap_5 ?_
  refine aw_istore_n (lv' := [(3, .int x2), (0, .ref (G.1 + a0)), (1, .int p1), (2, .int p2)]) dX8_swap_6 rfl (Nat.le_of_ble_eq_true rfl) rfl ?_
  refine aw_aload_n dX8_swap_7 1 rfl rfl ?_
  refine aw_getr fl_X8_63 (by decide) fg_X8_22 ha0 er1 rfl dX8_swap_8 ?_
  refine aw_iload_n dX8_swap_11 2 rfl rfl ?_
  refine aw_aload_n dX8_swap_12 1 rfl rfl ?_
  refine aw_getr fl_X8_63 (by decide) fg_X8_22 ha0 er1 rfl dX8_swap_13 ?_
  refine aw_iload_n dX8_swap_16 3 rfl rfl ?_
  obtain ⟨x3, ex3, hF⟩ := qbind hF
  refine aw_ialdq kr1 ex3 dX8_swap_17 ?_
  obtain ⟨I4, eI4, hF⟩ := qbind hF
  refine aw_iastq kr1 eI4 dX8_swap_18 ?_
  refine aw_aload_n dX8_swap_19 1 rfl rfl ?_
  refine aw_getr fl_X8_63 (by decide) fg_X8_22 ha0 er1 rfl dX8_swap_20 ?_
  refine aw_iload_n dX8_swap_23 3 rfl rfl ?_
  refine aw_iload_n dX8_swap_24 0 rfl rfl ?_
  obtain ⟨I5, eI5, hF⟩ := qbind hF
  refine aw_iastq kr1 eI5 dX8_swap_25 ?_
  cases hF
  exact aw_vret rfl dX8_swap_26 rfl rfl rfl
def cX8_goesOn_7 (N : Nat) (R : qR) (I : qI) (b0 : Nat) (v1 : Int32) : Option ((Int32) ⊕ (Int32)) :=
  if v1 < 0 then
    (some (.inr v1))
  else
    ((R.1 b0 22).bind fun r2 =>
    (qrd I R r2 v1).bind fun x3 =>
    (qrd I R r2 (v1 + (1 : Int32))).bind fun x4 =>
    if x3 ≤ x4 then
      (some (.inr v1))
    else
      (some (.inl (v1 - (1 : Int32)))))
set_option maxHeartbeats 4000000 in
set_option maxRecDepth 100000 in
theorem tX8_goesOn_7 {l : Launch} {G : qG} {N : Nat} {R : qR} {I : qI} {As : List Value} {rv : Option Value} {I1 : qI} {b0 : Nat} (hW : qWT R) (hb0 : qok R b0 8) {o : Int32} (hx : AW (Zm l G mX8_goesOn 2 As R rv I1 R) 35 [(0, .ref (G.1 + b0)), (1, .int o)] [] I R) : ∀ n s, qloop (fun s => cX8_goesOn_7 N R I b0 s) n s = some o → AW (Zm l G mX8_goesOn 2 As R rv I1 R) 7 [(0, .ref (G.1 + b0)), (1, .int s)] [] I R := by
  apply qloop_ind
  intro s x hF hc he
  obtain ⟨v1, rfl⟩ : ∃ z, z = s := ⟨s, rfl⟩
  change cX8_goesOn_7 N R I b0 v1 = some x at hF
  unfold cX8_goesOn_7 at hF
  show AW _ 7 [(0, .ref (G.1 + b0)), (1, .int v1)] [] I R
  refine aw_iload_n dX8_goesOn_7 1 rfl rfl ?_
  refine aw_if_lt (tgt := 35) dX8_goesOn_8 (by decide) (fun c1 => ?_) (fun c1 => ?_)
  · rw [if_pos c1] at hF
    cases hF
    have hE := he _ rfl
    subst hE
    exact aw_sub [0, 1] rfl hx
  · rw [if_neg c1] at hF
    refine aw_aload_n dX8_goesOn_11 0 rfl rfl ?_
    obtain ⟨r2, er2, hF⟩ := qbind hF
    have kr2 : qok R r2 9 := hW.get hb0 er2 rfl
    refine aw_getr fl_X8_63 (by decide) fg_X8_22 hb0 er2 rfl dX8_goesOn_12 ?_
    refine aw_iload_n dX8_goesOn_15 1 rfl rfl ?_
    obtain ⟨x3, ex3, hF⟩ := qbind hF
    refine aw_ialdq kr2 ex3 dX8_goesOn_16 ?_
    refine aw_aload_n dX8_goesOn_17 0 rfl rfl ?_
    refine aw_getr fl_X8_63 (by decide) fg_X8_22 hb0 er2 rfl dX8_goesOn_18 ?_
    refine aw_iload_n dX8_goesOn_21 1 rfl rfl ?_
    refine aw_iconst (v := (1 : Int32)) dX8_goesOn_22 (by decide) ?_
    refine aw_iadd dX8_goesOn_23 ?_
    obtain ⟨x4, ex4, hF⟩ := qbind hF
    refine aw_ialdq kr2 ex4 dX8_goesOn_24 ?_
    refine aw_icmp_le (tgt := 35) dX8_goesOn_25 (by decide) (fun c5 => ?_) (fun c5 => ?_)
    · rw [if_pos c5] at hF
      cases hF
      have hE := he _ rfl
      subst hE
      exact aw_sub [0, 1] rfl hx
    · rw [if_neg c5] at hF
      refine aw_iload_n dX8_goesOn_28 1 rfl rfl ?_
      refine aw_iconst (v := (1 : Int32)) dX8_goesOn_29 (by decide) ?_
      refine aw_isub dX8_goesOn_30 ?_
      refine aw_istore_n (lv' := [(1, .int (v1 - (1 : Int32))), (0, .ref (G.1 + b0))]) dX8_goesOn_31 rfl (Nat.le_of_ble_eq_true rfl) rfl ?_
      refine aw_goto (tgt := 7) dX8_goesOn_32 (by decide) ?_
      cases hF
      exact aw_sub [1, 0] rfl (hc (v1 - (1 : Int32)) rfl)
def cX8_goesOn_48 (N : Nat) (R : qR) (I : qI) (b0 : Nat) (v1 : Int32) (v2 : Int32) : Option ((Int32) ⊕ (Int32)) :=
  (R.1 b0 22).bind fun r8 =>
  (qrd I R r8 v2).bind fun x9 =>
  (qrd I R r8 v1).bind fun x10 =>
  if x10 ≤ x9 then
    (some (.inr v2))
  else
    (some (.inl (v2 - (1 : Int32))))
set_option maxHeartbeats 4000000 in
set_option maxRecDepth 100000 in
theorem tX8_goesOn_48 {l : Launch} {G : qG} {N : Nat} {R : qR} {I : qI} {As : List Value} {rv : Option Value} {I1 : qI} {b0 : Nat} {v1 : Int32} (hW : qWT R) (hb0 : qok R b0 8) {o : Int32} (hx : AW (Zm l G mX8_goesOn 2 As R rv I1 R) 70 [(0, .ref (G.1 + b0)), (1, .int v1), (2, .int o)] [] I R) : ∀ n s, qloop (fun s => cX8_goesOn_48 N R I b0 v1 s) n s = some o → AW (Zm l G mX8_goesOn 2 As R rv I1 R) 48 [(0, .ref (G.1 + b0)), (1, .int v1), (2, .int s)] [] I R := by
  apply qloop_ind
  intro s x hF hc he
  obtain ⟨v2, rfl⟩ : ∃ z, z = s := ⟨s, rfl⟩
  change cX8_goesOn_48 N R I b0 v1 v2 = some x at hF
  unfold cX8_goesOn_48 at hF
  show AW _ 48 [(0, .ref (G.1 + b0)), (1, .int v1), (2, .int v2)] [] I R
  refine aw_aload_n dX8_goesOn_48 0 rfl rfl ?_
  obtain ⟨r8, er8, hF⟩ := qbind hF
  have kr8 : qok R r8 9 := hW.get hb0 er8 rfl
  refine aw_getr fl_X8_63 (by decide) fg_X8_22 hb0 er8 rfl dX8_goesOn_49 ?_
  refine aw_iload_n dX8_goesOn_52 2 rfl rfl ?_
  obtain ⟨x9, ex9, hF⟩ := qbind hF
  refine aw_ialdq kr8 ex9 dX8_goesOn_53 ?_
  refine aw_aload_n dX8_goesOn_54 0 rfl rfl ?_
  refine aw_getr fl_X8_63 (by decide) fg_X8_22 hb0 er8 rfl dX8_goesOn_55 ?_
  refine aw_iload_n dX8_goesOn_58 1 rfl rfl ?_
  obtain ⟨x10, ex10, hF⟩ := qbind hF
  refine aw_ialdq kr8 ex10 dX8_goesOn_59 ?_
  refine aw_icmp_ge (tgt := 70) dX8_goesOn_60 (by decide) (fun c11 => ?_) (fun c11 => ?_)
  · rw [if_pos c11] at hF
    cases hF
    have hE := he _ rfl
    subst hE
    exact aw_sub [0, 1, 2] rfl hx
  · rw [if_neg c11] at hF
    refine aw_iload_n dX8_goesOn_63 2 rfl rfl ?_
    refine aw_iconst (v := (1 : Int32)) dX8_goesOn_64 (by decide) ?_
    refine aw_isub dX8_goesOn_65 ?_
    refine aw_istore_n (lv' := [(2, .int (v2 - (1 : Int32))), (0, .ref (G.1 + b0)), (1, .int v1)]) dX8_goesOn_66 rfl (Nat.le_of_ble_eq_true rfl) rfl ?_
    refine aw_goto (tgt := 48) dX8_goesOn_67 (by decide) ?_
    cases hF
    exact aw_sub [1, 2, 0] rfl (hc (v2 - (1 : Int32)) rfl)
def cX8_goesOn_88 (N : Nat) (R : qR) (b0 : Nat) (v3 : Int32) (v4 : Int32) (I : qI) : Option ((Int32 × Int32 × qI) ⊕ (qI)) :=
  if v3 ≤ v4 then
    (some (.inr I))
  else
    ((fX8_swap R I b0 v4 v3).bind fun y15 =>
    some (.inl ((v3 - (1 : Int32)), (v4 + 1), y15)))
set_option maxHeartbeats 4000000 in
set_option maxRecDepth 100000 in
theorem tX8_goesOn_88 {l : Launch} {G : qG} {N : Nat} {R : qR} {As : List Value} {rv : Option Value} {I1 : qI} {b0 : Nat} (hW : qWT R) (hb0 : qok R b0 8) {o : qI} (hx : AW (Zm l G mX8_goesOn 2 As R rv I1 R) 111 [] [] o R) : ∀ n s, qloop (fun s => cX8_goesOn_88 N R b0 s.1 s.2.1 s.2.2) n s = some o → (match s with | (v3, v4, I) => AW (Zm l G mX8_goesOn 2 As R rv I1 R) 88 [(0, .ref (G.1 + b0)), (3, .int v3), (4, .int v4)] [] I R) := by
  apply qloop_ind
  intro s x hF hc he
  obtain ⟨v3, v4, I⟩ := s
  change cX8_goesOn_88 N R b0 v3 v4 I = some x at hF
  unfold cX8_goesOn_88 at hF
  show AW _ 88 [(0, .ref (G.1 + b0)), (3, .int v3), (4, .int v4)] [] I R
  refine aw_iload dX8_goesOn_88 2 rfl ?_
  refine aw_iload_n dX8_goesOn_90 1 rfl rfl ?_
  refine aw_icmp_ge (tgt := 111) dX8_goesOn_91 (by decide) (fun c14 => ?_) (fun c14 => ?_)
  · rw [if_pos c14] at hF
    cases hF
    have hE := he _ rfl
    subst hE
    exact aw_sub [] rfl hx
  · rw [if_neg c14] at hF
    refine aw_aload_n dX8_goesOn_94 0 rfl rfl ?_
    refine aw_iload dX8_goesOn_95 2 rfl ?_
    refine aw_iload_n dX8_goesOn_97 1 rfl rfl ?_
    obtain ⟨y15, ey15, hF⟩ := qbind hF
    refine aw_callVv (As := [.int v4, .int v3]) (sX8_swap hW hb0 ey15) cl_X8_143 rfl (qroomL (by decide) (by decide)) rfl hb0 (Nat.le_of_ble_eq_true rfl) dX8_goesOn_98 rfl ?_
    refine aw_iload_n dX8_goesOn_101 1 rfl rfl ?_
    refine aw_iconst (v := (1 : Int32)) dX8_goesOn_102 (by decide) ?_
    refine aw_isub dX8_goesOn_103 ?_
    refine aw_istore_n (lv' := [(3, .int (v3 - (1 : Int32))), (0, .ref (G.1 + b0)), (4, .int v4)]) dX8_goesOn_104 rfl (Nat.le_of_ble_eq_true rfl) rfl ?_
    refine aw_iinc (q := 2) (v := (v4 + 1)) (lv' := [(4, .int (v4 + 1)), (3, .int (v3 - (1 : Int32))), (0, .ref (G.1 + b0))]) dX8_goesOn_105 rfl rfl (Nat.le_of_ble_eq_true rfl) rfl ?_
    refine aw_goto (tgt := 88) dX8_goesOn_108 (by decide) ?_
    cases hF
    exact aw_sub [2, 1, 0] rfl (hc ((v3 - (1 : Int32)), (v4 + 1), y15) rfl)
def fX8_goesOn (N : Nat) (R : qR) (I : qI) (a0 : Nat) : Option (Int32 × qI) :=
  (qloop (fun s => cX8_goesOn_7 N R I a0 s) N ((I a0 10) - (2 : Int32))).bind fun o6 =>
  if 0 ≤ o6 then
    ((qloop (fun s => cX8_goesOn_48 N R I a0 o6 s) N ((I a0 10) - (1 : Int32))).bind fun o12 =>
    (fX8_swap R I a0 o6 o12).bind fun y13 =>
    (qloop (fun s => cX8_goesOn_88 N R a0 s.1 s.2.1 s.2.2) N (((y13 a0 10) - (1 : Int32)), (o6 + (1 : Int32)), y13)).bind fun o16 =>
    some ((1 : Int32), o16))
  else
    (some ((0 : Int32), I))
set_option maxHeartbeats 4000000 in
set_option maxRecDepth 100000 in
theorem sX8_goesOn {l : Launch} {G : qG} {N : Nat} {R : qR} {I : qI} {a0 : Nat} {rv : Int32} {rI : qI} (hW : qWT R) (ha0 : qok R a0 8) (hF : fX8_goesOn N R I a0 = some (rv, rI)) : qMt l G mX8_goesOn 2 [.ref (G.1 + a0)] I R (some (.int rv)) rI R := by
  unfold fX8_goesOn at hF
  refine qMt_of (by decide) (Nat.le_of_ble_eq_true rfl) ⟨Nat.le_refl _, Nat.le_refl _⟩ ?_
  show AW _ 0 [(0, .ref (G.1 + a0))] [] I R
  refine aw_aload_n dX8_goesOn_0 0 rfl rfl ?_
  refine aw_geti fl_X8_120 (by decide) fg_X8_10 ha0 rfl dX8_goesOn_1 ?_
  refine aw_iconst (v := (2 : Int32)) dX8_goesOn_4 (by decide) ?_
  refine aw_isub dX8_goesOn_5 ?_
  refine aw_istore_n (lv' := [(1, .int ((I a0 10) - (2 : Int32))), (0, .ref (G.1 + a0))]) dX8_goesOn_6 rfl (Nat.le_of_ble_eq_true rfl) rfl ?_
  obtain ⟨o6, eo6, hF⟩ := qbind hF
  refine aw_sub [1, 0] rfl (tX8_goesOn_7 hW ha0 (o := o6) ?_ N ((I a0 10) - (2 : Int32)) eo6)
  show AW _ 35 [(0, .ref (G.1 + a0)), (1, .int o6)] [] I R
  refine aw_iload_n dX8_goesOn_35 1 rfl rfl ?_
  refine aw_if_ge (tgt := 41) dX8_goesOn_36 (by decide) (fun c7 => ?_) (fun c7 => ?_)
  · rw [if_pos c7] at hF
    refine aw_aload_n dX8_goesOn_41 0 rfl rfl ?_
    refine aw_geti fl_X8_120 (by decide) fg_X8_10 ha0 rfl dX8_goesOn_42 ?_
    refine aw_iconst (v := (1 : Int32)) dX8_goesOn_45 (by decide) ?_
    refine aw_isub dX8_goesOn_46 ?_
    refine aw_istore_n (lv' := [(2, .int ((I a0 10) - (1 : Int32))), (0, .ref (G.1 + a0)), (1, .int o6)]) dX8_goesOn_47 rfl (Nat.le_of_ble_eq_true rfl) rfl ?_
    obtain ⟨o12, eo12, hF⟩ := qbind hF
    refine aw_sub [1, 2, 0] rfl (tX8_goesOn_48 hW ha0 (o := o12) ?_ N ((I a0 10) - (1 : Int32)) eo12)
    show AW _ 70 [(0, .ref (G.1 + a0)), (1, .int o6), (2, .int o12)] [] I R
    refine aw_aload_n dX8_goesOn_70 0 rfl rfl ?_
    refine aw_iload_n dX8_goesOn_71 1 rfl rfl ?_
    refine aw_iload_n dX8_goesOn_72 2 rfl rfl ?_
    obtain ⟨y13, ey13, hF⟩ := qbind hF
    refine aw_callVv (As := [.int o6, .int o12]) (sX8_swap hW ha0 ey13) cl_X8_143 rfl (qroomL (by decide) (by decide)) rfl ha0 (Nat.le_of_ble_eq_true rfl) dX8_goesOn_73 rfl ?_
    refine aw_aload_n dX8_goesOn_76 0 rfl rfl ?_
    refine aw_geti fl_X8_120 (by decide) fg_X8_10 ha0 rfl dX8_goesOn_77 ?_
    refine aw_iconst (v := (1 : Int32)) dX8_goesOn_80 (by decide) ?_
    refine aw_isub dX8_goesOn_81 ?_
    refine aw_istore_n (lv' := [(3, .int ((y13 a0 10) - (1 : Int32))), (0, .ref (G.1 + a0)), (1, .int o6), (2, .int o12)]) dX8_goesOn_82 rfl (Nat.le_of_ble_eq_true rfl) rfl ?_
    refine aw_iload_n dX8_goesOn_83 2 rfl rfl ?_
    refine aw_iconst (v := (1 : Int32)) dX8_goesOn_84 (by decide) ?_
    refine aw_iadd dX8_goesOn_85 ?_
    refine aw_istore (lv' := [(4, .int (o6 + (1 : Int32))), (3, .int ((y13 a0 10) - (1 : Int32))), (0, .ref (G.1 + a0)), (1, .int o6), (2, .int o12)]) dX8_goesOn_86 (Nat.le_of_ble_eq_true rfl) rfl ?_
    obtain ⟨o16, eo16, hF⟩ := qbind hF
    refine aw_sub [2, 1, 0] rfl (tX8_goesOn_88 hW ha0 (o := o16) ?_ N (((y13 a0 10) - (1 : Int32)), (o6 + (1 : Int32)), y13) eo16)
    show AW _ 111 [] [] o16 R
    refine aw_iconst (v := (1 : Int32)) dX8_goesOn_111 (by decide) ?_
    cases hF
    exact aw_zret rfl (by decide) dX8_goesOn_112 rfl rfl rfl
  · rw [if_neg c7] at hF
    refine aw_iconst (v := (0 : Int32)) dX8_goesOn_39 (by decide) ?_
    cases hF
    exact aw_zret rfl (by decide) dX8_goesOn_40 rfl rfl rfl
