def cX0_setOrder_4 (N : Nat) (R : qR) (b0 : Nat) (v1 : Int32) (v2 : Int32) (I : qI) : Option ((Int32 × Int32 × qI) ⊕ (qI)) :=
  if (I b0 3) ≤ v2 then
    (some (.inr I))
  else
    ((fX0_firstBehind N R I b0 v1).bind fun y2 =>
    (R.1 b0 0).bind fun r3 =>
    (qwr I R r3 v2 y2).bind fun I4 =>
    some (.inl ((v1 ||| ((1 : Int32) <<< (y2 &&& 31))), (v2 + 1), I4)))
set_option maxHeartbeats 4000000 in
set_option maxRecDepth 100000 in
theorem tX0_setOrder_4 {l : Launch} {G : qG} {N : Nat} {R : qR} {As : List Value} {rv : Option Value} {I1 : qI} {b0 : Nat} (hW : qWT R) (hb0 : qok R b0 0) {o : qI} (hx : AW (Zm l G mX0_setOrder 4 As R rv I1 R) 37 [] [] o R) : ∀ n s, qloop (fun s => cX0_setOrder_4 N R b0 s.1 s.2.1 s.2.2) n s = some o → (match s with | (v1, v2, I) => AW (Zm l G mX0_setOrder 4 As R rv I1 R) 4 [(0, .ref (G.1 + b0)), (1, .int v1), (2, .int v2)] [] I R) := by
  apply qloop_ind
  intro s x hF hc he
  obtain ⟨v1, v2, I⟩ := s
  change cX0_setOrder_4 N R b0 v1 v2 I = some x at hF
  unfold cX0_setOrder_4 at hF
  show AW _ 4 [(0, .ref (G.1 + b0)), (1, .int v1), (2, .int v2)] [] I R
  refine aw_iload_n dX0_setOrder_4 2 rfl rfl ?_
  refine aw_aload_n dX0_setOrder_5 0 rfl rfl ?_
  refine aw_geti fl_X0_21 (by decide) fg_X0_3 hb0 rfl dX0_setOrder_6 ?_
  refine aw_icmp_ge (tgt := 37) dX0_setOrder_9 (by decide) (fun c1 => ?_) (fun c1 => ?_)
  · rw [if_pos c1] at hF
    cases hF
    have hE := he _ rfl
    subst hE
    exact aw_sub [] rfl hx
  · rw [if_neg c1] at hF
    refine aw_aload_n dX0_setOrder_12 0 rfl rfl ?_
    refine aw_iload_n dX0_setOrder_13 1 rfl rfl ?_
    obtain ⟨y2, ey2, hF⟩ := qbind hF
    refine aw_callVi (As := [.int v1]) (sX0_firstBehind hW hb0 ey2) cl_X0_66 rfl (qroomL (by decide) (by decide)) rfl hb0 (Nat.le_of_ble_eq_true rfl) dX0_setOrder_14 rfl ?_
    refine aw_istore_n (lv' := [(3, .int y2), (0, .ref (G.1 + b0)), (1, .int v1), (2, .int v2)]) dX0_setOrder_17 rfl (Nat.le_of_ble_eq_true rfl) rfl ?_
    refine aw_aload_n dX0_setOrder_18 1 rfl rfl ?_
    obtain ⟨r3, er3, hF⟩ := qbind hF
    have kr3 : qok R r3 9 := hW.get hb0 er3 rfl
    refine aw_getr fl_X0_9 (by decide) fg_X0_0 hb0 er3 rfl dX0_setOrder_19 ?_
    refine aw_iload_n dX0_setOrder_22 3 rfl rfl ?_
    refine aw_iload_n dX0_setOrder_23 0 rfl rfl ?_
    obtain ⟨I4, eI4, hF⟩ := qbind hF
    refine aw_iastq kr3 eI4 dX0_setOrder_24 ?_
    refine aw_iload_n dX0_setOrder_25 2 rfl rfl ?_
    refine aw_iconst (v := (1 : Int32)) dX0_setOrder_26 (by decide) ?_
    refine aw_iload_n dX0_setOrder_27 0 rfl rfl ?_
    refine aw_ishl dX0_setOrder_28 ?_
    refine aw_ior dX0_setOrder_29 ?_
    refine aw_istore_n (lv' := [(1, .int (v1 ||| ((1 : Int32) <<< (y2 &&& 31)))), (3, .int y2), (0, .ref (G.1 + b0)), (2, .int v2)]) dX0_setOrder_30 rfl (Nat.le_of_ble_eq_true rfl) rfl ?_
    refine aw_iinc (q := 3) (v := (v2 + 1)) (lv' := [(2, .int (v2 + 1)), (1, .int (v1 ||| ((1 : Int32) <<< (y2 &&& 31)))), (3, .int y2), (0, .ref (G.1 + b0))]) dX0_setOrder_31 rfl rfl (Nat.le_of_ble_eq_true rfl) rfl ?_
    refine aw_goto (tgt := 4) dX0_setOrder_34 (by decide) ?_
    cases hF
    exact aw_sub [3, 1, 0] rfl (hc ((v1 ||| ((1 : Int32) <<< (y2 &&& 31))), (v2 + 1), I4) rfl)
def fX0_setOrder (N : Nat) (R : qR) (I : qI) (a0 : Nat) : Option (qI) :=
  (qloop (fun s => cX0_setOrder_4 N R a0 s.1 s.2.1 s.2.2) N ((0 : Int32), (0 : Int32), I)).bind fun o5 =>
  some o5
set_option maxHeartbeats 4000000 in
set_option maxRecDepth 100000 in
theorem sX0_setOrder {l : Launch} {G : qG} {N : Nat} {R : qR} {I : qI} {a0 : Nat} {rI : qI} (hW : qWT R) (ha0 : qok R a0 0) (hF : fX0_setOrder N R I a0 = some rI) : qMt l G mX0_setOrder 4 [.ref (G.1 + a0)] I R (none) rI R := by
  unfold fX0_setOrder at hF
  refine qMt_of (by decide) (Nat.le_of_ble_eq_true rfl) ⟨Nat.le_refl _, Nat.le_refl _⟩ ?_
  show AW _ 0 [(0, .ref (G.1 + a0))] [] I R
  refine aw_iconst (v := (0 : Int32)) dX0_setOrder_0 (by decide) ?_
  refine aw_istore_n (lv' := [(1, .int (0 : Int32)), (0, .ref (G.1 + a0))]) dX0_setOrder_1 rfl (Nat.le_of_ble_eq_true rfl) rfl ?_
  refine aw_iconst (v := (0 : Int32)) dX0_setOrder_2 (by decide) ?_
  refine aw_istore_n (lv' := [(2, .int (0 : Int32)), (1, .int (0 : Int32)), (0, .ref (G.1 + a0))]) dX0_setOrder_3 rfl (Nat.le_of_ble_eq_true rfl) rfl ?_
  obtain ⟨o5, eo5, hF⟩ := qbind hF
  refine aw_sub [2, 1, 0] rfl (tX0_setOrder_4 hW ha0 (o := o5) ?_ N ((0 : Int32), (0 : Int32), I) eo5)
  show AW _ 37 [] [] o5 R
  cases hF
  exact aw_vret rfl dX0_setOrder_37 rfl rfl rfl
def fX0_wouldBreach (R : qR) (I : qI) (a0 : Nat) (p1 : Int32) (p2 : Int32) : Option (Int32) :=
  (R.1 a0 4).bind fun r1 =>
  (qrd I R r1 p1).bind fun x2 =>
  if ((x2 >>> (p2 &&& 31)) &&& (1 : Int32)) = 0 then
    (some (0 : Int32))
  else
    (some (1 : Int32))
set_option maxHeartbeats 4000000 in
set_option maxRecDepth 100000 in
theorem sX0_wouldBreach {l : Launch} {G : qG} {R : qR} {I : qI} {a0 : Nat} {p1 : Int32} {p2 : Int32} {rv : Int32} (hW : qWT R) (ha0 : qok R a0 0) (hF : fX0_wouldBreach R I a0 p1 p2 = some rv) : qMt l G mX0_wouldBreach 1 [.ref (G.1 + a0), .int p1, .int p2] I R (some (.int rv)) I R := by
  unfold fX0_wouldBreach at hF
  refine qMt_of (by decide) (Nat.le_of_ble_eq_true rfl) ⟨Nat.le_refl _, Nat.le_refl _⟩ ?_
  show AW _ 0 [(0, .ref (G.1 + a0)), (1, .int p1), (2, .int p2)] [] I R
  refine aw_aload_n dX0_wouldBreach_0 0 rfl rfl ?_
  obtain ⟨r1, er1, hF⟩ := qbind hF
  have kr1 : qok R r1 9 := hW.get ha0 er1 rfl
  refine aw_getr fl_X0_15 (by decide) fg_X0_4 ha0 er1 rfl dX0_wouldBreach_1 ?_
  refine aw_iload_n dX0_wouldBreach_4 1 rfl rfl ?_
  obtain ⟨x2, ex2, hF⟩ := qbind hF
  refine aw_ialdq kr1 ex2 dX0_wouldBreach_5 ?_
  refine aw_iload_n dX0_wouldBreach_6 2 rfl rfl ?_
  refine aw_ishr dX0_wouldBreach_7 ?_
  refine aw_iconst (v := (1 : Int32)) dX0_wouldBreach_8 (by decide) ?_
  refine aw_iand dX0_wouldBreach_9 ?_
  refine aw_if_eq (tgt := 17) dX0_wouldBreach_10 (by decide) (fun c3 => ?_) (fun c3 => ?_)
  · rw [if_pos c3] at hF
    refine aw_iconst (v := (0 : Int32)) dX0_wouldBreach_17 (by decide) ?_
    cases hF
    exact aw_zret rfl (by decide) dX0_wouldBreach_18 rfl rfl rfl
  · rw [if_neg c3] at hF
    refine aw_iconst (v := (1 : Int32)) dX0_wouldBreach_13 (by decide) ?_
    refine aw_goto (tgt := 18) dX0_wouldBreach_14 (by decide) ?_
    cases hF
    exact aw_zret rfl (by decide) dX0_wouldBreach_18 rfl rfl rfl
def cX0_arrange_12 (N : Nat) (R : qR) (b0 : Nat) (b1 : Nat) (v2 : Int32) (v3 : Int32) (I : qI) : Option ((Int32 × qI) ⊕ (qI)) :=
  if v2 ≤ v3 then
    (some (.inr I))
  else
    ((R.1 b0 4).bind fun r4 =>
    (fX0_breachedBy N R I b0 b1 v3).bind fun y5 =>
    (qwr I R r4 v3 y5).bind fun I6 =>
    some (.inl ((v3 + 1), I6)))
set_option maxHeartbeats 4000000 in
set_option maxRecDepth 100000 in
theorem tX0_arrange_12 {l : Launch} {G : qG} {N : Nat} {R : qR} {As : List Value} {rv : Option Value} {I1 : qI} {b0 : Nat} {b1 : Nat} {v2 : Int32} (hW : qWT R) (hb0 : qok R b0 0) (hb1 : qok R b1 11) {o : qI} (hx : AW (Zm l G mX0_arrange 5 As R rv I1 R) 35 [(0, .ref (G.1 + b0)), (2, .int v2)] [] o R) : ∀ n s, qloop (fun s => cX0_arrange_12 N R b0 b1 v2 s.1 s.2) n s = some o → (match s with | (v3, I) => AW (Zm l G mX0_arrange 5 As R rv I1 R) 12 [(0, .ref (G.1 + b0)), (1, .ref (G.1 + b1)), (2, .int v2), (3, .int v3)] [] I R) := by
  apply qloop_ind
  intro s x hF hc he
  obtain ⟨v3, I⟩ := s
  change cX0_arrange_12 N R b0 b1 v2 v3 I = some x at hF
  unfold cX0_arrange_12 at hF
  show AW _ 12 [(0, .ref (G.1 + b0)), (1, .ref (G.1 + b1)), (2, .int v2), (3, .int v3)] [] I R
  refine aw_iload_n dX0_arrange_12 3 rfl rfl ?_
  refine aw_iload_n dX0_arrange_13 2 rfl rfl ?_
  refine aw_icmp_ge (tgt := 35) dX0_arrange_14 (by decide) (fun c3 => ?_) (fun c3 => ?_)
  · rw [if_pos c3] at hF
    cases hF
    have hE := he _ rfl
    subst hE
    exact aw_sub [0, 2] rfl hx
  · rw [if_neg c3] at hF
    refine aw_aload_n dX0_arrange_17 0 rfl rfl ?_
    obtain ⟨r4, er4, hF⟩ := qbind hF
    have kr4 : qok R r4 9 := hW.get hb0 er4 rfl
    refine aw_getr fl_X0_15 (by decide) fg_X0_4 hb0 er4 rfl dX0_arrange_18 ?_
    refine aw_iload_n dX0_arrange_21 3 rfl rfl ?_
    refine aw_aload_n dX0_arrange_22 0 rfl rfl ?_
    refine aw_aload_n dX0_arrange_23 1 rfl rfl ?_
    refine aw_iload_n dX0_arrange_24 3 rfl rfl ?_
    obtain ⟨y5, ey5, hF⟩ := qbind hF
    refine aw_callVi (As := [.ref (G.1 + b1), .int v3]) (sX0_breachedBy hW hb0 hb1 ey5) cl_X0_28 rfl (qroomL (by decide) (by decide)) rfl hb0 (Nat.le_of_ble_eq_true rfl) dX0_arrange_25 rfl ?_
    obtain ⟨I6, eI6, hF⟩ := qbind hF
    refine aw_iastq kr4 eI6 dX0_arrange_28 ?_
    refine aw_iinc (q := 3) (v := (v3 + 1)) (lv' := [(3, .int (v3 + 1)), (0, .ref (G.1 + b0)), (1, .ref (G.1 + b1)), (2, .int v2)]) dX0_arrange_29 rfl rfl (Nat.le_of_ble_eq_true rfl) rfl ?_
    refine aw_goto (tgt := 12) dX0_arrange_32 (by decide) ?_
    cases hF
    exact aw_sub [1, 2, 3, 0] rfl (hc ((v3 + 1), I6) rfl)
def cX0_arrange_45 (N : Nat) (R : qR) (b0 : Nat) (v2 : Int32) (v3 : Int32) (v4 : Int32) (I : qI) : Option ((Int32 × qI) ⊕ (qI)) :=
  if v3 ≤ v4 then
    (some (.inr I))
  else
    ((fX0_wouldBreach R I b0 v3 v4).bind fun y10 =>
    if y10 = 0 then
      (qlet (qup I b0 2 ((I b0 2) + (0 : Int32))) fun I12 =>
      some (.inl ((v4 + 1), I12)))
    else
      ((fX0_wouldBreach R I b0 v4 v3).bind fun y13 =>
      if y13 = 0 then
        (qlet (qup I b0 2 ((I b0 2) + (0 : Int32))) fun I15 =>
        some (.inl ((v4 + 1), I15)))
      else
        (qlet (qup I b0 2 ((I b0 2) + (1 : Int32))) fun I16 =>
        some (.inl ((v4 + 1), I16)))))
set_option maxHeartbeats 4000000 in
set_option maxRecDepth 100000 in
theorem tX0_arrange_45 {l : Launch} {G : qG} {N : Nat} {R : qR} {As : List Value} {rv : Option Value} {I1 : qI} {b0 : Nat} {v2 : Int32} {v3 : Int32} (hW : qWT R) (hb0 : qok R b0 0) {o : qI} (hx : AW (Zm l G mX0_arrange 5 As R rv I1 R) 91 [(0, .ref (G.1 + b0)), (2, .int v2), (3, .int v3)] [] o R) : ∀ n s, qloop (fun s => cX0_arrange_45 N R b0 v2 v3 s.1 s.2) n s = some o → (match s with | (v4, I) => AW (Zm l G mX0_arrange 5 As R rv I1 R) 45 [(0, .ref (G.1 + b0)), (2, .int v2), (3, .int v3), (4, .int v4)] [] I R) := by
  apply qloop_ind
  intro s x hF hc he
  obtain ⟨v4, I⟩ := s
  change cX0_arrange_45 N R b0 v2 v3 v4 I = some x at hF
  unfold cX0_arrange_45 at hF
  show AW _ 45 [(0, .ref (G.1 + b0)), (2, .int v2), (3, .int v3), (4, .int v4)] [] I R
  refine aw_iload dX0_arrange_45 3 rfl ?_
  refine aw_iload_n dX0_arrange_47 2 rfl rfl ?_
  refine aw_icmp_ge (tgt := 91) dX0_arrange_48 (by decide) (fun c9 => ?_) (fun c9 => ?_)
  · rw [if_pos c9] at hF
    cases hF
    have hE := he _ rfl
    subst hE
    exact aw_sub [0, 1, 2] rfl hx
  · rw [if_neg c9] at hF
    refine aw_aload_n dX0_arrange_51 0 rfl rfl ?_
    refine aw_dup dX0_arrange_52 rfl ?_
    refine aw_geti fl_X0_25 (by decide) fg_X0_2 hb0 rfl dX0_arrange_53 ?_
    refine aw_aload_n dX0_arrange_56 0 rfl rfl ?_
    refine aw_iload_n dX0_arrange_57 2 rfl rfl ?_
    refine aw_iload dX0_arrange_58 3 rfl ?_
    obtain ⟨y10, ey10, hF⟩ := qbind hF
    refine aw_callVi (As := [.int v3, .int v4]) (sX0_wouldBreach hW hb0 ey10) cl_X0_32 rfl (qroomL (by decide) (by decide)) rfl hb0 (Nat.le_of_ble_eq_true rfl) dX0_arrange_60 rfl ?_
    refine aw_if_eq (tgt := 80) dX0_arrange_63 (by decide) (fun c11 => ?_) (fun c11 => ?_)
    · rw [if_pos c11] at hF
      refine aw_iconst (v := (0 : Int32)) dX0_arrange_80 (by decide) ?_
      refine aw_iadd dX0_arrange_81 ?_
      obtain ⟨I12, eI12, hF⟩ := qletE hF
      refine aw_putiq fl_X0_25 (by decide) fs_X0_2 fn_X0_2 ft_X0_2 hb0 eI12 rfl dX0_arrange_82 ?_
      refine aw_iinc (q := 3) (v := (v4 + 1)) (lv' := [(4, .int (v4 + 1)), (0, .ref (G.1 + b0)), (2, .int v2), (3, .int v3)]) dX0_arrange_85 rfl rfl (Nat.le_of_ble_eq_true rfl) rfl ?_
      refine aw_goto (tgt := 45) dX0_arrange_88 (by decide) ?_
      cases hF
      exact aw_sub [1, 2, 3, 0] rfl (hc ((v4 + 1), I12) rfl)
    · rw [if_neg c11] at hF
      refine aw_aload_n dX0_arrange_66 0 rfl rfl ?_
      refine aw_iload dX0_arrange_67 3 rfl ?_
      refine aw_iload_n dX0_arrange_69 2 rfl rfl ?_
      obtain ⟨y13, ey13, hF⟩ := qbind hF
      refine aw_callVi (As := [.int v4, .int v3]) (sX0_wouldBreach hW hb0 ey13) cl_X0_32 rfl (qroomL (by decide) (by decide)) rfl hb0 (Nat.le_of_ble_eq_true rfl) dX0_arrange_70 rfl ?_
      refine aw_if_eq (tgt := 80) dX0_arrange_73 (by decide) (fun c14 => ?_) (fun c14 => ?_)
      · rw [if_pos c14] at hF
        refine aw_iconst (v := (0 : Int32)) dX0_arrange_80 (by decide) ?_
        refine aw_iadd dX0_arrange_81 ?_
        obtain ⟨I15, eI15, hF⟩ := qletE hF
        refine aw_putiq fl_X0_25 (by decide) fs_X0_2 fn_X0_2 ft_X0_2 hb0 eI15 rfl dX0_arrange_82 ?_
        refine aw_iinc (q := 3) (v := (v4 + 1)) (lv' := [(4, .int (v4 + 1)), (0, .ref (G.1 + b0)), (2, .int v2), (3, .int v3)]) dX0_arrange_85 rfl rfl (Nat.le_of_ble_eq_true rfl) rfl ?_
        refine aw_goto (tgt := 45) dX0_arrange_88 (by decide) ?_
        cases hF
        exact aw_sub [1, 2, 3, 0] rfl (hc ((v4 + 1), I15) rfl)
      · rw [if_neg c14] at hF
        refine aw_iconst (v := (1 : Int32)) dX0_arrange_76 (by decide) ?_
        refine aw_goto (tgt := 81) dX0_arrange_77 (by decide) ?_
        refine aw_iadd dX0_arrange_81 ?_
        obtain ⟨I16, eI16, hF⟩ := qletE hF
        refine aw_putiq fl_X0_25 (by decide) fs_X0_2 fn_X0_2 ft_X0_2 hb0 eI16 rfl dX0_arrange_82 ?_
        refine aw_iinc (q := 3) (v := (v4 + 1)) (lv' := [(4, .int (v4 + 1)), (0, .ref (G.1 + b0)), (2, .int v2), (3, .int v3)]) dX0_arrange_85 rfl rfl (Nat.le_of_ble_eq_true rfl) rfl ?_
        refine aw_goto (tgt := 45) dX0_arrange_88 (by decide) ?_
        cases hF
        exact aw_sub [1, 2, 3, 0] rfl (hc ((v4 + 1), I16) rfl)
def cX0_arrange_37 (N : Nat) (R : qR) (b0 : Nat) (v2 : Int32) (v3 : Int32) (I : qI) : Option ((Int32 × qI) ⊕ (qI)) :=
  if v2 ≤ v3 then
    (some (.inr I))
  else
    ((qloop (fun s => cX0_arrange_45 N R b0 v2 v3 s.1 s.2) N ((0 : Int32), I)).bind fun o17 =>
    some (.inl ((v3 + 1), o17)))
set_option maxHeartbeats 4000000 in
set_option maxRecDepth 100000 in
theorem tX0_arrange_37 {l : Launch} {G : qG} {N : Nat} {R : qR} {As : List Value} {rv : Option Value} {I1 : qI} {b0 : Nat} {v2 : Int32} (hW : qWT R) (hb0 : qok R b0 0) {o : qI} (hx : AW (Zm l G mX0_arrange 5 As R rv I1 R) 97 [(0, .ref (G.1 + b0))] [] o R) : ∀ n s, qloop (fun s => cX0_arrange_37 N R b0 v2 s.1 s.2) n s = some o → (match s with | (v3, I) => AW (Zm l G mX0_arrange 5 As R rv I1 R) 37 [(0, .ref (G.1 + b0)), (2, .int v2), (3, .int v3)] [] I R) := by
  apply qloop_ind
  intro s x hF hc he
  obtain ⟨v3, I⟩ := s
  change cX0_arrange_37 N R b0 v2 v3 I = some x at hF
  unfold cX0_arrange_37 at hF
  show AW _ 37 [(0, .ref (G.1 + b0)), (2, .int v2), (3, .int v3)] [] I R
  refine aw_iload_n dX0_arrange_37 2 rfl rfl ?_
  refine aw_iload_n dX0_arrange_38 1 rfl rfl ?_
  refine aw_icmp_ge (tgt := 97) dX0_arrange_39 (by decide) (fun c8 => ?_) (fun c8 => ?_)
  · rw [if_pos c8] at hF
    cases hF
    have hE := he _ rfl
    subst hE
    exact aw_sub [0] rfl hx
  · rw [if_neg c8] at hF
    refine aw_iconst (v := (0 : Int32)) dX0_arrange_42 (by decide) ?_
    refine aw_istore (lv' := [(4, .int (0 : Int32)), (0, .ref (G.1 + b0)), (2, .int v2), (3, .int v3)]) dX0_arrange_43 (Nat.le_of_ble_eq_true rfl) rfl ?_
    obtain ⟨o17, eo17, hF⟩ := qbind hF
    refine aw_sub [1, 2, 3, 0] rfl (tX0_arrange_45 hW hb0 (o := o17) ?_ N ((0 : Int32), I) eo17)
    show AW _ 91 [(0, .ref (G.1 + b0)), (2, .int v2), (3, .int v3)] [] o17 R
    refine aw_iinc (q := 2) (v := (v3 + 1)) (lv' := [(3, .int (v3 + 1)), (0, .ref (G.1 + b0)), (2, .int v2)]) dX0_arrange_91 rfl rfl (Nat.le_of_ble_eq_true rfl) rfl ?_
    refine aw_goto (tgt := 37) dX0_arrange_94 (by decide) ?_
    cases hF
    exact aw_sub [1, 2, 0] rfl (hc ((v3 + 1), o17) rfl)
def fX0_arrange (N : Nat) (R : qR) (I : qI) (a0 : Nat) (a1 : Nat) (p2 : Int32) : Option (qI) :=
  qlet (qup I a0 3 p2) fun I1 =>
  qlet (qup I1 a0 2 (0 : Int32)) fun I2 =>
  (qloop (fun s => cX0_arrange_12 N R a0 a1 p2 s.1 s.2) N ((0 : Int32), I2)).bind fun o7 =>
  (qloop (fun s => cX0_arrange_37 N R a0 p2 s.1 s.2) N ((0 : Int32), o7)).bind fun o18 =>
  (fX0_fillFewest N R o18 a0).bind fun y19 =>
  (R.1 a0 5).bind fun r20 =>
  (qrd y19 R r20 (0 : Int32)).bind fun x21 =>
  qlet (qup y19 a0 1 x21) fun I22 =>
  (fX0_setOrder N R I22 a0).bind fun y23 =>
  some y23
set_option maxHeartbeats 4000000 in
set_option maxRecDepth 100000 in
theorem sX0_arrange {l : Launch} {G : qG} {N : Nat} {R : qR} {I : qI} {a0 : Nat} {a1 : Nat} {p2 : Int32} {rI : qI} (hW : qWT R) (ha0 : qok R a0 0) (ha1 : qok R a1 11) (hF : fX0_arrange N R I a0 a1 p2 = some rI) : qMt l G mX0_arrange 5 [.ref (G.1 + a0), .ref (G.1 + a1), .int p2] I R (none) rI R := by
  unfold fX0_arrange at hF
  refine qMt_of (by decide) (Nat.le_of_ble_eq_true rfl) ⟨Nat.le_refl _, Nat.le_refl _⟩ ?_
  show AW _ 0 [(0, .ref (G.1 + a0)), (1, .ref (G.1 + a1)), (2, .int p2)] [] I R
  refine aw_aload_n dX0_arrange_0 0 rfl rfl ?_
  refine aw_iload_n dX0_arrange_1 2 rfl rfl ?_
  obtain ⟨I1, eI1, hF⟩ := qletE hF
  refine aw_putiq fl_X0_21 (by decide) fs_X0_3 fn_X0_3 ft_X0_3 ha0 eI1 rfl dX0_arrange_2 ?_
  refine aw_aload_n dX0_arrange_5 0 rfl rfl ?_
  refine aw_iconst (v := (0 : Int32)) dX0_arrange_6 (by decide) ?_
  obtain ⟨I2, eI2, hF⟩ := qletE hF
  refine aw_putiq fl_X0_25 (by decide) fs_X0_2 fn_X0_2 ft_X0_2 ha0 eI2 rfl dX0_arrange_7 ?_
  refine aw_iconst (v := (0 : Int32)) dX0_arrange_10 (by decide) ?_
  refine aw_istore_n (lv' := [(3, .int (0 : Int32)), (0, .ref (G.1 + a0)), (1, .ref (G.1 + a1)), (2, .int p2)]) dX0_arrange_11 rfl (Nat.le_of_ble_eq_true rfl) rfl ?_
  obtain ⟨o7, eo7, hF⟩ := qbind hF
  refine aw_sub [1, 2, 3, 0] rfl (tX0_arrange_12 hW ha0 ha1 (o := o7) ?_ N ((0 : Int32), I2) eo7)
  show AW _ 35 [(0, .ref (G.1 + a0)), (2, .int p2)] [] o7 R
  refine aw_iconst (v := (0 : Int32)) dX0_arrange_35 (by decide) ?_
  refine aw_istore_n (lv' := [(3, .int (0 : Int32)), (0, .ref (G.1 + a0)), (2, .int p2)]) dX0_arrange_36 rfl (Nat.le_of_ble_eq_true rfl) rfl ?_
  obtain ⟨o18, eo18, hF⟩ := qbind hF
  refine aw_sub [1, 2, 0] rfl (tX0_arrange_37 hW ha0 (o := o18) ?_ N ((0 : Int32), o7) eo18)
  show AW _ 97 [(0, .ref (G.1 + a0))] [] o18 R
  refine aw_aload_n dX0_arrange_97 0 rfl rfl ?_
  obtain ⟨y19, ey19, hF⟩ := qbind hF
  refine aw_callVv (As := []) (sX0_fillFewest hW ha0 ey19) cl_X0_36 rfl (qroomL (by decide) (by decide)) rfl ha0 (Nat.le_of_ble_eq_true rfl) dX0_arrange_98 rfl ?_
  refine aw_aload_n dX0_arrange_101 0 rfl rfl ?_
  refine aw_aload_n dX0_arrange_102 0 rfl rfl ?_
  obtain ⟨r20, er20, hF⟩ := qbind hF
  have kr20 : qok R r20 9 := hW.get ha0 er20 rfl
  refine aw_getr fl_X0_18 (by decide) fg_X0_5 ha0 er20 rfl dX0_arrange_103 ?_
  refine aw_iconst (v := (0 : Int32)) dX0_arrange_106 (by decide) ?_
  obtain ⟨x21, ex21, hF⟩ := qbind hF
  refine aw_ialdq kr20 ex21 dX0_arrange_107 ?_
  obtain ⟨I22, eI22, hF⟩ := qletE hF
  refine aw_putiq fl_X0_39 (by decide) fs_X0_1 fn_X0_1 ft_X0_1 ha0 eI22 rfl dX0_arrange_108 ?_
  refine aw_aload_n dX0_arrange_111 0 rfl rfl ?_
  obtain ⟨y23, ey23, hF⟩ := qbind hF
  refine aw_callVv (As := []) (sX0_setOrder hW ha0 ey23) cl_X0_42 rfl (qroomL (by decide) (by decide)) rfl ha0 (Nat.le_of_ble_eq_true rfl) dX0_arrange_112 rfl ?_
  cases hF
  exact aw_vret rfl dX0_arrange_115 rfl rfl rfl
def cJ7_fill_53178_5 (N : Nat) (R : qR) (b0 : Nat) (v1 : Int32) (v3 : Int32) (v2 : Int32) (I : qI) : Option ((Int32 × qI) ⊕ (qI)) :=
  if v3 ≤ v2 then
    (some (.inr I))
  else
    ((qwr I R b0 v2 v1).bind fun I2 =>
    some (.inl ((v2 + 1), I2)))
set_option maxHeartbeats 4000000 in
set_option maxRecDepth 100000 in
theorem tJ7_fill_53178_5 {l : Launch} {G : qG} {N : Nat} {R : qR} {As : List Value} {rv : Option Value} {I1 : qI} {b0 : Nat} {v1 : Int32} {v3 : Int32} (hW : qWT R) (hb0 : qok R b0 9) {o : qI} (hx : AW (Zm l G mJ7_fill_53178 1 As R rv I1 R) 20 [] [] o R) : ∀ n s, qloop (fun s => cJ7_fill_53178_5 N R b0 v1 v3 s.1 s.2) n s = some o → (match s with | (v2, I) => AW (Zm l G mJ7_fill_53178 1 As R rv I1 R) 5 [(0, .ref (G.1 + b0)), (1, .int v1), (2, .int v2), (3, .int v3)] [] I R) := by
  apply qloop_ind
  intro s x hF hc he
  obtain ⟨v2, I⟩ := s
  change cJ7_fill_53178_5 N R b0 v1 v3 v2 I = some x at hF
  unfold cJ7_fill_53178_5 at hF
  show AW _ 5 [(0, .ref (G.1 + b0)), (1, .int v1), (2, .int v2), (3, .int v3)] [] I R
  refine aw_iload_n dJ7_fill_53178_5 2 rfl rfl ?_
  refine aw_iload_n dJ7_fill_53178_6 3 rfl rfl ?_
  refine aw_icmp_ge (tgt := 20) dJ7_fill_53178_7 (by decide) (fun c1 => ?_) (fun c1 => ?_)
  · rw [if_pos c1] at hF
    cases hF
    have hE := he _ rfl
    subst hE
    exact aw_sub [] rfl hx
  · rw [if_neg c1] at hF
    refine aw_aload_n dJ7_fill_53178_10 0 rfl rfl ?_
    refine aw_iload_n dJ7_fill_53178_11 2 rfl rfl ?_
    refine aw_iload_n dJ7_fill_53178_12 1 rfl rfl ?_
    obtain ⟨I2, eI2, hF⟩ := qbind hF
    refine aw_iastq hb0 eI2 dJ7_fill_53178_13 ?_
    refine aw_iinc (q := 2) (v := (v2 + 1)) (lv' := [(2, .int (v2 + 1)), (0, .ref (G.1 + b0)), (1, .int v1), (3, .int v3)]) dJ7_fill_53178_14 rfl rfl (Nat.le_of_ble_eq_true rfl) rfl ?_
    refine aw_goto (tgt := 5) dJ7_fill_53178_17 (by decide) ?_
    cases hF
    exact aw_sub [1, 2, 0, 3] rfl (hc ((v2 + 1), I2) rfl)
def fJ7_fill_53178 (N : Nat) (R : qR) (I : qI) (a0 : Nat) (p1 : Int32) : Option (qI) :=
  (qloop (fun s => cJ7_fill_53178_5 N R a0 p1 (Int32.ofNat (R.2.1 a0).2) s.1 s.2) N ((0 : Int32), I)).bind fun o3 =>
  some o3
set_option maxHeartbeats 4000000 in
set_option maxRecDepth 100000 in
theorem sJ7_fill_53178 {l : Launch} {G : qG} {N : Nat} {R : qR} {I : qI} {a0 : Nat} {p1 : Int32} {rI : qI} (hW : qWT R) (ha0 : qok R a0 9) (hF : fJ7_fill_53178 N R I a0 p1 = some rI) : qMt l G mJ7_fill_53178 1 [.ref (G.1 + a0), .int p1] I R (none) rI R := by
  unfold fJ7_fill_53178 at hF
  refine qMt_of (by decide) (Nat.le_of_ble_eq_true rfl) ⟨Nat.le_refl _, Nat.le_refl _⟩ ?_
  show AW _ 0 [(0, .ref (G.1 + a0)), (1, .int p1)] [] I R
  refine aw_iconst (v := (0 : Int32)) dJ7_fill_53178_0 (by decide) ?_
  refine aw_istore_n (lv' := [(2, .int (0 : Int32)), (0, .ref (G.1 + a0)), (1, .int p1)]) dJ7_fill_53178_1 rfl (Nat.le_of_ble_eq_true rfl) rfl ?_
  refine aw_aload_n dJ7_fill_53178_2 1 rfl rfl ?_
  refine aw_alen ha0 (Or.inl rfl) rfl dJ7_fill_53178_3 ?_
  refine aw_istore_n (lv' := [(3, .int (Int32.ofNat (R.2.1 a0).2)), (2, .int (0 : Int32)), (0, .ref (G.1 + a0)), (1, .int p1)]) dJ7_fill_53178_4 rfl (Nat.le_of_ble_eq_true rfl) rfl ?_
  obtain ⟨o3, eo3, hF⟩ := qbind hF
  refine aw_sub [2, 3, 1, 0] rfl (tJ7_fill_53178_5 hW ha0 (o := o3) ?_ N ((0 : Int32), I) eo3)
  show AW _ 20 [] [] o3 R
  cases hF
  exact aw_vret rfl dJ7_fill_53178_20 rfl rfl rfl
def fX1_clear (N : Nat) (R : qR) (I : qI) (a0 : Nat) : Option (qI) :=
  qlet (qup I a0 0 (0 : Int32)) fun I1 =>
  (R.1 a0 2).bind fun r2 =>
  (fJ7_fill_53178 N R I1 r2 (-1 : Int32)).bind fun y3 =>
  some y3
set_option maxHeartbeats 4000000 in
set_option maxRecDepth 100000 in
theorem sX1_clear {l : Launch} {G : qG} {N : Nat} {R : qR} {I : qI} {a0 : Nat} {rI : qI} (hW : qWT R) (ha0 : qok R a0 1) (hF : fX1_clear N R I a0 = some rI) : qMt l G mX1_clear 2 [.ref (G.1 + a0)] I R (none) rI R := by
  unfold fX1_clear at hF
  refine qMt_of (by decide) (Nat.le_of_ble_eq_true rfl) ⟨Nat.le_refl _, Nat.le_refl _⟩ ?_
  show AW _ 0 [(0, .ref (G.1 + a0))] [] I R
  refine aw_aload_n dX1_clear_0 0 rfl rfl ?_
  refine aw_iconst (v := (0 : Int32)) dX1_clear_1 (by decide) ?_
  obtain ⟨I1, eI1, hF⟩ := qletE hF
  refine aw_putiq fl_X1_18 (by decide) fs_X1_0 fn_X1_0 ft_X1_0 ha0 eI1 rfl dX1_clear_2 ?_
  refine aw_aload_n dX1_clear_5 0 rfl rfl ?_
  obtain ⟨r2, er2, hF⟩ := qbind hF
  have kr2 : qok R r2 9 := hW.get ha0 er2 rfl
  refine aw_getr fl_X1_15 (by decide) fg_X1_2 ha0 er2 rfl dX1_clear_6 ?_
  refine aw_iconst (v := (-1 : Int32)) dX1_clear_9 (by decide) ?_
  obtain ⟨y3, ey3, hF⟩ := qbind hF
  refine aw_callSv (sJ7_fill_53178 hW kr2 ey3) cl_X1_22 rfl (qroomL (by decide) (by decide)) rfl (Nat.le_of_ble_eq_true rfl) dX1_clear_10 rfl ?_
  cases hF
  exact aw_vret rfl dX1_clear_13 rfl rfl rfl
def cX1_give_3 (N : Nat) (R : qR) (I : qI) (b0 : Nat) (v1 : Int32) (v2 : Int32) (v3 : Int32) (v4 : Int32) : Option ((Int32) ⊕ (Int32)) :=
  if (5 : Int32) ≤ v4 then
    (some (.inr v4))
  else
    ((R.1 b0 2).bind fun r2 =>
    (qrd I R r2 v4).bind fun x3 =>
    if x3 < v2 then
      (some (.inr v4))
    else
      (some (.inl (v4 + 1))))
set_option maxHeartbeats 4000000 in
set_option maxRecDepth 100000 in
theorem tX1_give_3 {l : Launch} {G : qG} {N : Nat} {R : qR} {I : qI} {As : List Value} {rv : Option Value} {I1 : qI} {b0 : Nat} {v1 : Int32} {v2 : Int32} {v3 : Int32} (hW : qWT R) (hb0 : qok R b0 1) {o : Int32} (hx : AW (Zm l G mX1_give 1 As R rv I1 R) 26 [(0, .ref (G.1 + b0)), (1, .int v1), (3, .int v3), (4, .int o)] [] I R) : ∀ n s, qloop (fun s => cX1_give_3 N R I b0 v1 v2 v3 s) n s = some o → AW (Zm l G mX1_give 1 As R rv I1 R) 3 [(0, .ref (G.1 + b0)), (1, .int v1), (2, .int v2), (3, .int v3), (4, .int s)] [] I R := by
  apply qloop_ind
  intro s x hF hc he
  obtain ⟨v4, rfl⟩ : ∃ z, z = s := ⟨s, rfl⟩
  change cX1_give_3 N R I b0 v1 v2 v3 v4 = some x at hF
  unfold cX1_give_3 at hF
  show AW _ 3 [(0, .ref (G.1 + b0)), (1, .int v1), (2, .int v2), (3, .int v3), (4, .int v4)] [] I R
  refine aw_iload dX1_give_3 4 rfl ?_
  refine aw_iconst (v := (5 : Int32)) dX1_give_5 (by decide) ?_
  refine aw_icmp_ge (tgt := 26) dX1_give_6 (by decide) (fun c1 => ?_) (fun c1 => ?_)
  · rw [if_pos c1] at hF
    cases hF
    have hE := he _ rfl
    subst hE
    exact aw_sub [0, 1, 3, 4] rfl hx
  · rw [if_neg c1] at hF
    refine aw_aload_n dX1_give_9 0 rfl rfl ?_
    obtain ⟨r2, er2, hF⟩ := qbind hF
    have kr2 : qok R r2 9 := hW.get hb0 er2 rfl
    refine aw_getr fl_X1_15 (by decide) fg_X1_2 hb0 er2 rfl dX1_give_10 ?_
    refine aw_iload dX1_give_13 4 rfl ?_
    obtain ⟨x3, ex3, hF⟩ := qbind hF
    refine aw_ialdq kr2 ex3 dX1_give_15 ?_
    refine aw_iload_n dX1_give_16 2 rfl rfl ?_
    refine aw_icmp_lt (tgt := 26) dX1_give_17 (by decide) (fun c4 => ?_) (fun c4 => ?_)
    · rw [if_pos c4] at hF
      cases hF
      have hE := he _ rfl
      subst hE
      exact aw_sub [0, 1, 3, 4] rfl hx
    · rw [if_neg c4] at hF
      refine aw_iinc (q := 4) (v := (v4 + 1)) (lv' := [(4, .int (v4 + 1)), (0, .ref (G.1 + b0)), (1, .int v1), (2, .int v2), (3, .int v3)]) dX1_give_20 rfl rfl (Nat.le_of_ble_eq_true rfl) rfl ?_
      refine aw_goto (tgt := 3) dX1_give_23 (by decide) ?_
      cases hF
      exact aw_sub [1, 2, 3, 4, 0] rfl (hc (v4 + 1) rfl)
def fX1_give (N : Nat) (R : qR) (I : qI) (a0 : Nat) (p1 : Int32) (p2 : Int32) (p3 : Int32) : Option (qI) :=
  (qloop (fun s => cX1_give_3 N R I a0 p1 p2 p3 s) N (0 : Int32)).bind fun o5 =>
  (R.1 a0 1).bind fun r6 =>
  (qwr I R r6 p1 o5).bind fun I7 =>
  (R.1 a0 2).bind fun r8 =>
  (qwr I7 R r8 o5 p3).bind fun I9 =>
  qlet (qup I9 a0 0 (if (I9 a0 0) < (o5 + (1 : Int32)) then (o5 + (1 : Int32)) else (I9 a0 0))) fun I10 =>
  some I10
set_option maxHeartbeats 4000000 in
set_option maxRecDepth 100000 in
theorem sX1_give {l : Launch} {G : qG} {N : Nat} {R : qR} {I : qI} {a0 : Nat} {p1 : Int32} {p2 : Int32} {p3 : Int32} {rI : qI} (hW : qWT R) (ha0 : qok R a0 1) (hF : fX1_give N R I a0 p1 p2 p3 = some rI) : qMt l G mX1_give 1 [.ref (G.1 + a0), .int p1, .int p2, .int p3] I R (none) rI R := by
  unfold fX1_give at hF
  refine qMt_of (by decide) (Nat.le_of_ble_eq_true rfl) ⟨Nat.le_refl _, Nat.le_refl _⟩ ?_
  show AW _ 0 [(0, .ref (G.1 + a0)), (1, .int p1), (2, .int p2), (3, .int p3)] [] I R
  refine aw_iconst (v := (0 : Int32)) dX1_give_0 (by decide) ?_
  refine aw_istore (lv' := [(4, .int (0 : Int32)), (0, .ref (G.1 + a0)), (1, .int p1), (2, .int p2), (3, .int p3)]) dX1_give_1 (Nat.le_of_ble_eq_true rfl) rfl ?_
  obtain ⟨o5, eo5, hF⟩ := qbind hF
  refine aw_sub [1, 2, 3, 4, 0] rfl (tX1_give_3 hW ha0 (o := o5) ?_ N (0 : Int32) eo5)
  show AW _ 26 [(0, .ref (G.1 + a0)), (1, .int p1), (3, .int p3), (4, .int o5)] [] I R
  refine aw_aload_n dX1_give_26 0 rfl rfl ?_
  obtain ⟨r6, er6, hF⟩ := qbind hF
  have kr6 : qok R r6 9 := hW.get ha0 er6 rfl
  refine aw_getr fl_X1_9 (by decide) fg_X1_1 ha0 er6 rfl dX1_give_27 ?_
  refine aw_iload_n dX1_give_30 1 rfl rfl ?_
  refine aw_iload dX1_give_31 3 rfl ?_
  obtain ⟨I7, eI7, hF⟩ := qbind hF
  refine aw_iastq kr6 eI7 dX1_give_33 ?_
  refine aw_aload_n dX1_give_34 0 rfl rfl ?_
  obtain ⟨r8, er8, hF⟩ := qbind hF
  have kr8 : qok R r8 9 := hW.get ha0 er8 rfl
  refine aw_getr fl_X1_15 (by decide) fg_X1_2 ha0 er8 rfl dX1_give_35 ?_
  refine aw_iload dX1_give_38 3 rfl ?_
  refine aw_iload_n dX1_give_40 2 rfl rfl ?_
  obtain ⟨I9, eI9, hF⟩ := qbind hF
  refine aw_iastq kr8 eI9 dX1_give_41 ?_
  refine aw_aload_n dX1_give_42 0 rfl rfl ?_
  refine aw_aload_n dX1_give_43 0 rfl rfl ?_
  refine aw_geti fl_X1_18 (by decide) fg_X1_0 ha0 rfl dX1_give_44 ?_
  refine aw_iload dX1_give_47 3 rfl ?_
  refine aw_iconst (v := (1 : Int32)) dX1_give_49 (by decide) ?_
  refine aw_iadd dX1_give_50 ?_
  refine aw_maxq cl_X1_28 rfl (Nat.le_of_ble_eq_true rfl) (by decide) dX1_give_51 ?_
  obtain ⟨I10, eI10, hF⟩ := qletE hF
  refine aw_putiq fl_X1_18 (by decide) fs_X1_0 fn_X1_0 ft_X1_0 ha0 eI10 rfl dX1_give_54 ?_
  cases hF
  exact aw_vret rfl dX1_give_57 rfl rfl rfl
def fX2_keep (R : qR) (I : qI) (a0 : Nat) (p1 : Int32) (p2 : Int32) : Option (qI) :=
  (R.1 a0 8).bind fun r1 =>
  (qwr I R r1 p1 (((I a0 4) <<< ((6 : Int32) &&& 31)) ||| p2)).bind fun I2 =>
  some I2
set_option maxHeartbeats 4000000 in
set_option maxRecDepth 100000 in
theorem sX2_keep {l : Launch} {G : qG} {R : qR} {I : qI} {a0 : Nat} {p1 : Int32} {p2 : Int32} {rI : qI} (hW : qWT R) (ha0 : qok R a0 2) (hF : fX2_keep R I a0 p1 p2 = some rI) : qMt l G mX2_keep 1 [.ref (G.1 + a0), .int p1, .int p2] I R (none) rI R := by
  unfold fX2_keep at hF
  refine qMt_of (by decide) (Nat.le_of_ble_eq_true rfl) ⟨Nat.le_refl _, Nat.le_refl _⟩ ?_
  show AW _ 0 [(0, .ref (G.1 + a0)), (1, .int p1), (2, .int p2)] [] I R
  refine aw_aload_n dX2_keep_0 0 rfl rfl ?_
  obtain ⟨r1, er1, hF⟩ := qbind hF
  have kr1 : qok R r1 9 := hW.get ha0 er1 rfl
  refine aw_getr fl_X2_24 (by decide) fg_X2_8 ha0 er1 rfl dX2_keep_1 ?_
  refine aw_iload_n dX2_keep_4 1 rfl rfl ?_
  refine aw_aload_n dX2_keep_5 0 rfl rfl ?_
  refine aw_geti fl_X2_85 (by decide) fg_X2_4 ha0 rfl dX2_keep_6 ?_
  refine aw_bipush (v := (6 : Int32)) dX2_keep_9 (by decide) ?_
  refine aw_ishl dX2_keep_11 ?_
  refine aw_iload_n dX2_keep_12 2 rfl rfl ?_
  refine aw_ior dX2_keep_13 ?_
  obtain ⟨I2, eI2, hF⟩ := qbind hF
  refine aw_iastq kr1 eI2 dX2_keep_14 ?_
  cases hF
  exact aw_vret rfl dX2_keep_15 rfl rfl rfl
