def cX8_breaches_53 (N : Nat) (R : qR) (I : qI) (b0 : Nat) (v3 : Int32) (v2 : Int32) (v4 : Int32) : Option ((Int32 × Int32) ⊕ (Int32)) :=
  if (I b0 10) ≤ v4 then
    (some (.inr v2))
  else
    ((fX8_isBreach N R I b0 v3 v4).bind fun y8 =>
    if y8 = 0 then
      (some (.inl (v2, (v4 + 1))))
    else
      ((fX8_isBreach N R I b0 v4 v3).bind fun y10 =>
      if y10 = 0 then
        (some (.inl (v2, (v4 + 1))))
      else
        (some (.inl ((v2 + (1 : Int32)), (v4 + 1))))))
set_option maxHeartbeats 4000000 in
set_option maxRecDepth 100000 in
theorem tX8_breaches_53 {l : Launch} {G : qG} {N : Nat} {R : qR} {I : qI} {As : List Value} {rv : Option Value} {I1 : qI} {b0 : Nat} {v3 : Int32} (hW : qWT R) (hb0 : qok R b0 8) {o : Int32} (hx : AW (Zm l G mX8_breaches 4 As R rv I1 R) 92 [(0, .ref (G.1 + b0)), (2, .int o), (3, .int v3)] [] I R) : ∀ n s, qloop (fun s => cX8_breaches_53 N R I b0 v3 s.1 s.2) n s = some o → (match s with | (v2, v4) => AW (Zm l G mX8_breaches 4 As R rv I1 R) 53 [(0, .ref (G.1 + b0)), (2, .int v2), (3, .int v3), (4, .int v4)] [] I R) := by
  apply qloop_ind
  intro s x hF hc he
  obtain ⟨v2, v4⟩ := s
  change cX8_breaches_53 N R I b0 v3 v2 v4 = some x at hF
  unfold cX8_breaches_53 at hF
  show AW _ 53 [(0, .ref (G.1 + b0)), (2, .int v2), (3, .int v3), (4, .int v4)] [] I R
  refine aw_iload dX8_breaches_53 3 rfl ?_
  refine aw_aload_n dX8_breaches_55 0 rfl rfl ?_
  refine aw_geti fl_X8_120 (by decide) fg_X8_10 hb0 rfl dX8_breaches_56 ?_
  refine aw_icmp_ge (tgt := 92) dX8_breaches_59 (by decide) (fun c7 => ?_) (fun c7 => ?_)
  · rw [if_pos c7] at hF
    cases hF
    have hE := he _ rfl
    subst hE
    exact aw_sub [0, 1, 2] rfl hx
  · rw [if_neg c7] at hF
    refine aw_aload_n dX8_breaches_62 0 rfl rfl ?_
    refine aw_iload_n dX8_breaches_63 2 rfl rfl ?_
    refine aw_iload dX8_breaches_64 3 rfl ?_
    obtain ⟨y8, ey8, hF⟩ := qbind hF
    refine aw_callVi (As := [.int v3, .int v4]) (sX8_isBreach hW hb0 ey8) cl_X8_139 rfl (qroomL (by decide) (by decide)) rfl hb0 (Nat.le_of_ble_eq_true rfl) dX8_breaches_66 rfl ?_
    refine aw_if_eq (tgt := 86) dX8_breaches_69 (by decide) (fun c9 => ?_) (fun c9 => ?_)
    · rw [if_pos c9] at hF
      refine aw_iinc (q := 3) (v := (v4 + 1)) (lv' := [(4, .int (v4 + 1)), (0, .ref (G.1 + b0)), (2, .int v2), (3, .int v3)]) dX8_breaches_86 rfl rfl (Nat.le_of_ble_eq_true rfl) rfl ?_
      refine aw_goto (tgt := 53) dX8_breaches_89 (by decide) ?_
      cases hF
      exact aw_sub [1, 2, 3, 0] rfl (hc (v2, (v4 + 1)) rfl)
    · rw [if_neg c9] at hF
      refine aw_aload_n dX8_breaches_72 0 rfl rfl ?_
      refine aw_iload dX8_breaches_73 3 rfl ?_
      refine aw_iload_n dX8_breaches_75 2 rfl rfl ?_
      obtain ⟨y10, ey10, hF⟩ := qbind hF
      refine aw_callVi (As := [.int v4, .int v3]) (sX8_isBreach hW hb0 ey10) cl_X8_139 rfl (qroomL (by decide) (by decide)) rfl hb0 (Nat.le_of_ble_eq_true rfl) dX8_breaches_76 rfl ?_
      refine aw_if_eq (tgt := 86) dX8_breaches_79 (by decide) (fun c11 => ?_) (fun c11 => ?_)
      · rw [if_pos c11] at hF
        refine aw_iinc (q := 3) (v := (v4 + 1)) (lv' := [(4, .int (v4 + 1)), (0, .ref (G.1 + b0)), (2, .int v2), (3, .int v3)]) dX8_breaches_86 rfl rfl (Nat.le_of_ble_eq_true rfl) rfl ?_
        refine aw_goto (tgt := 53) dX8_breaches_89 (by decide) ?_
        cases hF
        exact aw_sub [1, 2, 3, 0] rfl (hc (v2, (v4 + 1)) rfl)
      · rw [if_neg c11] at hF
        refine aw_iload_n dX8_breaches_82 1 rfl rfl ?_
        refine aw_iconst (v := (1 : Int32)) dX8_breaches_83 (by decide) ?_
        refine aw_iadd dX8_breaches_84 ?_
        refine aw_istore_n (lv' := [(2, .int (v2 + (1 : Int32))), (0, .ref (G.1 + b0)), (3, .int v3), (4, .int v4)]) dX8_breaches_85 rfl (Nat.le_of_ble_eq_true rfl) rfl ?_
        refine aw_iinc (q := 3) (v := (v4 + 1)) (lv' := [(4, .int (v4 + 1)), (2, .int (v2 + (1 : Int32))), (0, .ref (G.1 + b0)), (3, .int v3)]) dX8_breaches_86 rfl rfl (Nat.le_of_ble_eq_true rfl) rfl ?_
        refine aw_goto (tgt := 53) dX8_breaches_89 (by decide) ?_
        cases hF
        exact aw_sub [2, 1, 3, 0] rfl (hc ((v2 + (1 : Int32)), (v4 + 1)) rfl)
def cX8_breaches_40 (N : Nat) (R : qR) (I : qI) (b0 : Nat) (v2 : Int32) (v3 : Int32) : Option ((Int32 × Int32) ⊕ (Int32)) :=
  if (I b0 10) ≤ v3 then
    (some (.inr v2))
  else
    ((qloop (fun s => cX8_breaches_53 N R I b0 v3 s.1 s.2) N (v2, (v3 + (1 : Int32)))).bind fun o12 =>
    some (.inl (o12, (v3 + 1))))
set_option maxHeartbeats 4000000 in
set_option maxRecDepth 100000 in
theorem tX8_breaches_40 {l : Launch} {G : qG} {N : Nat} {R : qR} {I : qI} {As : List Value} {rv : Option Value} {I1 : qI} {b0 : Nat} (hW : qWT R) (hb0 : qok R b0 8) {o : Int32} (hx : AW (Zm l G mX8_breaches 4 As R rv I1 R) 98 [(2, .int o)] [] I R) : ∀ n s, qloop (fun s => cX8_breaches_40 N R I b0 s.1 s.2) n s = some o → (match s with | (v2, v3) => AW (Zm l G mX8_breaches 4 As R rv I1 R) 40 [(0, .ref (G.1 + b0)), (2, .int v2), (3, .int v3)] [] I R) := by
  apply qloop_ind
  intro s x hF hc he
  obtain ⟨v2, v3⟩ := s
  change cX8_breaches_40 N R I b0 v2 v3 = some x at hF
  unfold cX8_breaches_40 at hF
  show AW _ 40 [(0, .ref (G.1 + b0)), (2, .int v2), (3, .int v3)] [] I R
  refine aw_iload_n dX8_breaches_40 2 rfl rfl ?_
  refine aw_aload_n dX8_breaches_41 0 rfl rfl ?_
  refine aw_geti fl_X8_120 (by decide) fg_X8_10 hb0 rfl dX8_breaches_42 ?_
  refine aw_icmp_ge (tgt := 98) dX8_breaches_45 (by decide) (fun c6 => ?_) (fun c6 => ?_)
  · rw [if_pos c6] at hF
    cases hF
    have hE := he _ rfl
    subst hE
    exact aw_sub [1] rfl hx
  · rw [if_neg c6] at hF
    refine aw_iload_n dX8_breaches_48 2 rfl rfl ?_
    refine aw_iconst (v := (1 : Int32)) dX8_breaches_49 (by decide) ?_
    refine aw_iadd dX8_breaches_50 ?_
    refine aw_istore (lv' := [(4, .int (v3 + (1 : Int32))), (0, .ref (G.1 + b0)), (2, .int v2), (3, .int v3)]) dX8_breaches_51 (Nat.le_of_ble_eq_true rfl) rfl ?_
    obtain ⟨o12, eo12, hF⟩ := qbind hF
    refine aw_sub [1, 2, 3, 0] rfl (tX8_breaches_53 hW hb0 (o := o12) ?_ N (v2, (v3 + (1 : Int32))) eo12)
    show AW _ 92 [(0, .ref (G.1 + b0)), (2, .int o12), (3, .int v3)] [] I R
    refine aw_iinc (q := 2) (v := (v3 + 1)) (lv' := [(3, .int (v3 + 1)), (0, .ref (G.1 + b0)), (2, .int o12)]) dX8_breaches_92 rfl rfl (Nat.le_of_ble_eq_true rfl) rfl ?_
    refine aw_goto (tgt := 40) dX8_breaches_95 (by decide) ?_
    cases hF
    exact aw_sub [1, 2, 0] rfl (hc (o12, (v3 + 1)) rfl)
def fX8_breaches (N : Nat) (R : qR) (I : qI) (a0 : Nat) (p1 : Int32) : Option (Int32 × qI) :=
  qlet (qup I a0 0 (0 : Int32)) fun I1 =>
  if (I1 a0 10) = 0 then
    (some ((-1 : Int32), I1))
  else
    (if p1 < 0 then
      (some ((-1 : Int32), I1))
    else
      (if p1 ≤ (1 : Int32) then
        (if p1 = 0 then
          ((R.1 a0 18).bind fun r14 =>
          (fX8_breachesOf N R I1 a0 r14).bind fun y15 =>
          some (y15, I1))
        else
          ((qloop (fun s => cX8_breaches_40 N R I1 a0 s.1 s.2) N ((0 : Int32), (0 : Int32))).bind fun o13 =>
          some (o13, I1)))
      else
        (some ((-1 : Int32), I1))))
set_option maxHeartbeats 4000000 in
set_option maxRecDepth 100000 in
theorem sX8_breaches {l : Launch} {G : qG} {N : Nat} {R : qR} {I : qI} {a0 : Nat} {p1 : Int32} {rv : Int32} {rI : qI} (hW : qWT R) (ha0 : qok R a0 8) (hF : fX8_breaches N R I a0 p1 = some (rv, rI)) : qMt l G mX8_breaches 4 [.ref (G.1 + a0), .int p1] I R (some (.int rv)) rI R := by
  unfold fX8_breaches at hF
  refine qMt_of (by decide) (Nat.le_of_ble_eq_true rfl) ⟨Nat.le_refl _, Nat.le_refl _⟩ ?_
  show AW _ 0 [(0, .ref (G.1 + a0)), (1, .int p1)] [] I R
  refine aw_aload_n dX8_breaches_0 0 rfl rfl ?_
  refine aw_iconst (v := (0 : Int32)) dX8_breaches_1 (by decide) ?_
  obtain ⟨I1, eI1, hF⟩ := qletE hF
  refine aw_putiq fl_X8_94 (by decide) fs_X8_0 fn_X8_0 ft_X8_0 ha0 eI1 rfl dX8_breaches_2 ?_
  refine aw_aload_n dX8_breaches_5 0 rfl rfl ?_
  refine aw_geti fl_X8_120 (by decide) fg_X8_10 ha0 rfl dX8_breaches_6 ?_
  refine aw_if_eq (tgt := 21) dX8_breaches_9 (by decide) (fun c2 => ?_) (fun c2 => ?_)
  · rw [if_pos c2] at hF
    refine aw_iconst (v := (-1 : Int32)) dX8_breaches_21 (by decide) ?_
    cases hF
    exact aw_iret rfl dX8_breaches_22 rfl rfl rfl
  · rw [if_neg c2] at hF
    refine aw_iload_n dX8_breaches_12 1 rfl rfl ?_
    refine aw_if_lt (tgt := 21) dX8_breaches_13 (by decide) (fun c3 => ?_) (fun c3 => ?_)
    · rw [if_pos c3] at hF
      refine aw_iconst (v := (-1 : Int32)) dX8_breaches_21 (by decide) ?_
      cases hF
      exact aw_iret rfl dX8_breaches_22 rfl rfl rfl
    · rw [if_neg c3] at hF
      refine aw_iload_n dX8_breaches_16 1 rfl rfl ?_
      refine aw_iconst (v := (1 : Int32)) dX8_breaches_17 (by decide) ?_
      refine aw_icmp_le (tgt := 23) dX8_breaches_18 (by decide) (fun c4 => ?_) (fun c4 => ?_)
      · rw [if_pos c4] at hF
        refine aw_iload_n dX8_breaches_23 1 rfl rfl ?_
        refine aw_if_ne (tgt := 36) dX8_breaches_24 (by decide) (fun c5 => ?_) (fun c5 => ?_)
        · rw [if_neg c5] at hF
          refine aw_iconst (v := (0 : Int32)) dX8_breaches_36 (by decide) ?_
          refine aw_istore_n (lv' := [(2, .int (0 : Int32)), (0, .ref (G.1 + a0)), (1, .int p1)]) dX8_breaches_37 rfl (Nat.le_of_ble_eq_true rfl) rfl ?_
          refine aw_iconst (v := (0 : Int32)) dX8_breaches_38 (by decide) ?_
          refine aw_istore_n (lv' := [(3, .int (0 : Int32)), (2, .int (0 : Int32)), (0, .ref (G.1 + a0)), (1, .int p1)]) dX8_breaches_39 rfl (Nat.le_of_ble_eq_true rfl) rfl ?_
          obtain ⟨o13, eo13, hF⟩ := qbind hF
          refine aw_sub [2, 1, 0] rfl (tX8_breaches_40 hW ha0 (o := o13) ?_ N ((0 : Int32), (0 : Int32)) eo13)
          show AW _ 98 [(2, .int o13)] [] I1 R
          refine aw_iload_n dX8_breaches_98 0 rfl rfl ?_
          cases hF
          exact aw_iret rfl dX8_breaches_99 rfl rfl rfl
        · rw [if_pos c5] at hF
          refine aw_aload_n dX8_breaches_27 0 rfl rfl ?_
          refine aw_aload_n dX8_breaches_28 0 rfl rfl ?_
          obtain ⟨r14, er14, hF⟩ := qbind hF
          have kr14 : qok R r14 9 := hW.get ha0 er14 rfl
          refine aw_getr fl_X8_53 (by decide) fg_X8_18 ha0 er14 rfl dX8_breaches_29 ?_
          obtain ⟨y15, ey15, hF⟩ := qbind hF
          refine aw_callVi (As := [.ref (G.1 + r14)]) (sX8_breachesOf hW ha0 kr14 ey15) cl_X8_147 rfl (qroomL (by decide) (by decide)) rfl ha0 (Nat.le_of_ble_eq_true rfl) dX8_breaches_32 rfl ?_
          cases hF
          exact aw_iret rfl dX8_breaches_35 rfl rfl rfl
      · rw [if_neg c4] at hF
        refine aw_iconst (v := (-1 : Int32)) dX8_breaches_21 (by decide) ?_
        cases hF
        exact aw_iret rfl dX8_breaches_22 rfl rfl rfl
def fX8_breach (N : Nat) (R : qR) (I : qI) (a0 : Nat) (p1 : Int32) (p2 : Int32) : Option (Int32 × qI) :=
  qlet (qup I a0 0 (0 : Int32)) fun I1 =>
  (fX8_isColumn R I1 a0 p1).bind fun y2 =>
  if y2 = 0 then
    (some ((-1 : Int32), I1))
  else
    ((fX8_isColumn R I1 a0 p2).bind fun y4 =>
    if y4 = 0 then
      (some ((-1 : Int32), I1))
    else
      (if p1 < p2 then
        ((R.1 a0 18).bind fun r7 =>
        (qrd I1 R r7 p1).bind fun x8 =>
        (qrd I1 R r7 p2).bind fun x9 =>
        (fX8_isBreach N R I1 a0 x8 x9).bind fun y10 =>
        if y10 = 0 then
          (some ((0 : Int32), I1))
        else
          (some ((1 : Int32), I1)))
      else
        (some ((-1 : Int32), I1))))
set_option maxHeartbeats 4000000 in
set_option maxRecDepth 100000 in
theorem sX8_breach {l : Launch} {G : qG} {N : Nat} {R : qR} {I : qI} {a0 : Nat} {p1 : Int32} {p2 : Int32} {rv : Int32} {rI : qI} (hW : qWT R) (ha0 : qok R a0 8) (hF : fX8_breach N R I a0 p1 p2 = some (rv, rI)) : qMt l G mX8_breach 3 [.ref (G.1 + a0), .int p1, .int p2] I R (some (.int rv)) rI R := by
  unfold fX8_breach at hF
  refine qMt_of (by decide) (Nat.le_of_ble_eq_true rfl) ⟨Nat.le_refl _, Nat.le_refl _⟩ ?_
  show AW _ 0 [(0, .ref (G.1 + a0)), (1, .int p1), (2, .int p2)] [] I R
  refine aw_aload_n dX8_breach_0 0 rfl rfl ?_
  refine aw_iconst (v := (0 : Int32)) dX8_breach_1 (by decide) ?_
  obtain ⟨I1, eI1, hF⟩ := qletE hF
  refine aw_putiq fl_X8_94 (by decide) fs_X8_0 fn_X8_0 ft_X8_0 ha0 eI1 rfl dX8_breach_2 ?_
  refine aw_aload_n dX8_breach_5 0 rfl rfl ?_
  refine aw_iload_n dX8_breach_6 1 rfl rfl ?_
  obtain ⟨y2, ey2, hF⟩ := qbind hF
  refine aw_callVi (As := [.int p1]) (sX8_isColumn hW ha0 ey2) cl_X8_176 rfl (qroomL (by decide) (by decide)) rfl ha0 (Nat.le_of_ble_eq_true rfl) dX8_breach_7 rfl ?_
  refine aw_if_eq (tgt := 26) dX8_breach_10 (by decide) (fun c3 => ?_) (fun c3 => ?_)
  · rw [if_pos c3] at hF
    refine aw_iconst (v := (-1 : Int32)) dX8_breach_26 (by decide) ?_
    refine aw_goto (tgt := 54) dX8_breach_27 (by decide) ?_
    cases hF
    exact aw_iret rfl dX8_breach_54 rfl rfl rfl
  · rw [if_neg c3] at hF
    refine aw_aload_n dX8_breach_13 0 rfl rfl ?_
    refine aw_iload_n dX8_breach_14 2 rfl rfl ?_
    obtain ⟨y4, ey4, hF⟩ := qbind hF
    refine aw_callVi (As := [.int p2]) (sX8_isColumn hW ha0 ey4) cl_X8_176 rfl (qroomL (by decide) (by decide)) rfl ha0 (Nat.le_of_ble_eq_true rfl) dX8_breach_15 rfl ?_
    refine aw_if_eq (tgt := 26) dX8_breach_18 (by decide) (fun c5 => ?_) (fun c5 => ?_)
    · rw [if_pos c5] at hF
      refine aw_iconst (v := (-1 : Int32)) dX8_breach_26 (by decide) ?_
      refine aw_goto (tgt := 54) dX8_breach_27 (by decide) ?_
      cases hF
      exact aw_iret rfl dX8_breach_54 rfl rfl rfl
    · rw [if_neg c5] at hF
      refine aw_iload_n dX8_breach_21 1 rfl rfl ?_
      refine aw_iload_n dX8_breach_22 2 rfl rfl ?_
      refine aw_icmp_lt (tgt := 30) dX8_breach_23 (by decide) (fun c6 => ?_) (fun c6 => ?_)
      · rw [if_pos c6] at hF
        refine aw_aload_n dX8_breach_30 0 rfl rfl ?_
        refine aw_aload_n dX8_breach_31 0 rfl rfl ?_
        obtain ⟨r7, er7, hF⟩ := qbind hF
        have kr7 : qok R r7 9 := hW.get ha0 er7 rfl
        refine aw_getr fl_X8_53 (by decide) fg_X8_18 ha0 er7 rfl dX8_breach_32 ?_
        refine aw_iload_n dX8_breach_35 1 rfl rfl ?_
        obtain ⟨x8, ex8, hF⟩ := qbind hF
        refine aw_ialdq kr7 ex8 dX8_breach_36 ?_
        refine aw_aload_n dX8_breach_37 0 rfl rfl ?_
        refine aw_getr fl_X8_53 (by decide) fg_X8_18 ha0 er7 rfl dX8_breach_38 ?_
        refine aw_iload_n dX8_breach_41 2 rfl rfl ?_
        obtain ⟨x9, ex9, hF⟩ := qbind hF
        refine aw_ialdq kr7 ex9 dX8_breach_42 ?_
        obtain ⟨y10, ey10, hF⟩ := qbind hF
        refine aw_callVi (As := [.int x8, .int x9]) (sX8_isBreach hW ha0 ey10) cl_X8_139 rfl (qroomL (by decide) (by decide)) rfl ha0 (Nat.le_of_ble_eq_true rfl) dX8_breach_43 rfl ?_
        refine aw_if_eq (tgt := 53) dX8_breach_46 (by decide) (fun c11 => ?_) (fun c11 => ?_)
        · rw [if_pos c11] at hF
          refine aw_iconst (v := (0 : Int32)) dX8_breach_53 (by decide) ?_
          cases hF
          exact aw_iret rfl dX8_breach_54 rfl rfl rfl
        · rw [if_neg c11] at hF
          refine aw_iconst (v := (1 : Int32)) dX8_breach_49 (by decide) ?_
          refine aw_goto (tgt := 54) dX8_breach_50 (by decide) ?_
          cases hF
          exact aw_iret rfl dX8_breach_54 rfl rfl rfl
      · rw [if_neg c6] at hF
        refine aw_iconst (v := (-1 : Int32)) dX8_breach_26 (by decide) ?_
        refine aw_goto (tgt := 54) dX8_breach_27 (by decide) ?_
        cases hF
        exact aw_iret rfl dX8_breach_54 rfl rfl rfl
def fX8_lanes (R : qR) (I : qI) (a0 : Nat) : Option (Int32 × qI) :=
  qlet (qup I a0 0 (0 : Int32)) fun I1 =>
  if (I1 a0 10) = 0 then
    (some ((-1 : Int32), I1))
  else
    (some ((I1 a0 20), I1))
set_option maxHeartbeats 4000000 in
set_option maxRecDepth 100000 in
theorem sX8_lanes {l : Launch} {G : qG} {R : qR} {I : qI} {a0 : Nat} {rv : Int32} {rI : qI} (hW : qWT R) (ha0 : qok R a0 8) (hF : fX8_lanes R I a0 = some (rv, rI)) : qMt l G mX8_lanes 1 [.ref (G.1 + a0)] I R (some (.int rv)) rI R := by
  unfold fX8_lanes at hF
  refine qMt_of (by decide) (Nat.le_of_ble_eq_true rfl) ⟨Nat.le_refl _, Nat.le_refl _⟩ ?_
  show AW _ 0 [(0, .ref (G.1 + a0))] [] I R
  refine aw_aload_n dX8_lanes_0 0 rfl rfl ?_
  refine aw_iconst (v := (0 : Int32)) dX8_lanes_1 (by decide) ?_
  obtain ⟨I1, eI1, hF⟩ := qletE hF
  refine aw_putiq fl_X8_94 (by decide) fs_X8_0 fn_X8_0 ft_X8_0 ha0 eI1 rfl dX8_lanes_2 ?_
  refine aw_aload_n dX8_lanes_5 0 rfl rfl ?_
  refine aw_geti fl_X8_120 (by decide) fg_X8_10 ha0 rfl dX8_lanes_6 ?_
  refine aw_if_ne (tgt := 16) dX8_lanes_9 (by decide) (fun c2 => ?_) (fun c2 => ?_)
  · rw [if_neg c2] at hF
    refine aw_aload_n dX8_lanes_16 0 rfl rfl ?_
    refine aw_geti fl_X8_155 (by decide) fg_X8_20 ha0 rfl dX8_lanes_17 ?_
    cases hF
    exact aw_iret rfl dX8_lanes_20 rfl rfl rfl
  · rw [if_pos c2] at hF
    refine aw_iconst (v := (-1 : Int32)) dX8_lanes_12 (by decide) ?_
    refine aw_goto (tgt := 20) dX8_lanes_13 (by decide) ?_
    cases hF
    exact aw_iret rfl dX8_lanes_20 rfl rfl rfl
def fX8_lane (R : qR) (I : qI) (a0 : Nat) (p1 : Int32) : Option (Int32 × qI) :=
  qlet (qup I a0 0 (0 : Int32)) fun I1 =>
  (fX8_isColumn R I1 a0 p1).bind fun y2 =>
  if y2 = 0 then
    (some ((-1 : Int32), I1))
  else
    ((R.1 a0 19).bind fun r4 =>
    (R.1 a0 18).bind fun r5 =>
    (qrd I1 R r5 p1).bind fun x6 =>
    (qrd I1 R r4 x6).bind fun x7 =>
    some (x7, I1))
set_option maxHeartbeats 4000000 in
set_option maxRecDepth 100000 in
theorem sX8_lane {l : Launch} {G : qG} {R : qR} {I : qI} {a0 : Nat} {p1 : Int32} {rv : Int32} {rI : qI} (hW : qWT R) (ha0 : qok R a0 8) (hF : fX8_lane R I a0 p1 = some (rv, rI)) : qMt l G mX8_lane 2 [.ref (G.1 + a0), .int p1] I R (some (.int rv)) rI R := by
  unfold fX8_lane at hF
  refine qMt_of (by decide) (Nat.le_of_ble_eq_true rfl) ⟨Nat.le_refl _, Nat.le_refl _⟩ ?_
  show AW _ 0 [(0, .ref (G.1 + a0)), (1, .int p1)] [] I R
  refine aw_aload_n dX8_lane_0 0 rfl rfl ?_
  refine aw_iconst (v := (0 : Int32)) dX8_lane_1 (by decide) ?_
  obtain ⟨I1, eI1, hF⟩ := qletE hF
  refine aw_putiq fl_X8_94 (by decide) fs_X8_0 fn_X8_0 ft_X8_0 ha0 eI1 rfl dX8_lane_2 ?_
  refine aw_aload_n dX8_lane_5 0 rfl rfl ?_
  refine aw_iload_n dX8_lane_6 1 rfl rfl ?_
  obtain ⟨y2, ey2, hF⟩ := qbind hF
  refine aw_callVi (As := [.int p1]) (sX8_isColumn hW ha0 ey2) cl_X8_176 rfl (qroomL (by decide) (by decide)) rfl ha0 (Nat.le_of_ble_eq_true rfl) dX8_lane_7 rfl ?_
  refine aw_if_eq (tgt := 27) dX8_lane_10 (by decide) (fun c3 => ?_) (fun c3 => ?_)
  · rw [if_pos c3] at hF
    refine aw_iconst (v := (-1 : Int32)) dX8_lane_27 (by decide) ?_
    cases hF
    exact aw_iret rfl dX8_lane_28 rfl rfl rfl
  · rw [if_neg c3] at hF
    refine aw_aload_n dX8_lane_13 0 rfl rfl ?_
    obtain ⟨r4, er4, hF⟩ := qbind hF
    have kr4 : qok R r4 9 := hW.get ha0 er4 rfl
    refine aw_getr fl_X8_56 (by decide) fg_X8_19 ha0 er4 rfl dX8_lane_14 ?_
    refine aw_aload_n dX8_lane_17 0 rfl rfl ?_
    obtain ⟨r5, er5, hF⟩ := qbind hF
    have kr5 : qok R r5 9 := hW.get ha0 er5 rfl
    refine aw_getr fl_X8_53 (by decide) fg_X8_18 ha0 er5 rfl dX8_lane_18 ?_
    refine aw_iload_n dX8_lane_21 1 rfl rfl ?_
    obtain ⟨x6, ex6, hF⟩ := qbind hF
    refine aw_ialdq kr5 ex6 dX8_lane_22 ?_
    obtain ⟨x7, ex7, hF⟩ := qbind hF
    refine aw_ialdq kr4 ex7 dX8_lane_23 ?_
    refine aw_goto (tgt := 28) dX8_lane_24 (by decide) ?_
    cases hF
    exact aw_iret rfl dX8_lane_28 rfl rfl rfl
def fX8_runs (R : qR) (I : qI) (a0 : Nat) (p1 : Int32) (p2 : Int32) : Option (Int32) :=
  (R.1 a0 3).bind fun r1 =>
  (qrd I R r1 p1).bind fun x2 =>
  if ((x2 >>> (p2 &&& 31)) &&& (1 : Int32)) = (1 : Int32) then
    (some (1 : Int32))
  else
    (some (0 : Int32))
set_option maxHeartbeats 4000000 in
set_option maxRecDepth 100000 in
theorem sX8_runs {l : Launch} {G : qG} {R : qR} {I : qI} {a0 : Nat} {p1 : Int32} {p2 : Int32} {rv : Int32} (hW : qWT R) (ha0 : qok R a0 8) (hF : fX8_runs R I a0 p1 p2 = some rv) : qMt l G mX8_runs 1 [.ref (G.1 + a0), .int p1, .int p2] I R (some (.int rv)) I R := by
  unfold fX8_runs at hF
  refine qMt_of (by decide) (Nat.le_of_ble_eq_true rfl) ⟨Nat.le_refl _, Nat.le_refl _⟩ ?_
  show AW _ 0 [(0, .ref (G.1 + a0)), (1, .int p1), (2, .int p2)] [] I R
  refine aw_aload_n dX8_runs_0 0 rfl rfl ?_
  obtain ⟨r1, er1, hF⟩ := qbind hF
  have kr1 : qok R r1 9 := hW.get ha0 er1 rfl
  refine aw_getr fl_X8_13 (by decide) fg_X8_3 ha0 er1 rfl dX8_runs_1 ?_
  refine aw_iload_n dX8_runs_4 1 rfl rfl ?_
  obtain ⟨x2, ex2, hF⟩ := qbind hF
  refine aw_ialdq kr1 ex2 dX8_runs_5 ?_
  refine aw_iload_n dX8_runs_6 2 rfl rfl ?_
  refine aw_ishr dX8_runs_7 ?_
  refine aw_iconst (v := (1 : Int32)) dX8_runs_8 (by decide) ?_
  refine aw_iand dX8_runs_9 ?_
  refine aw_iconst (v := (1 : Int32)) dX8_runs_10 (by decide) ?_
  refine aw_icmp_ne (tgt := 18) dX8_runs_11 (by decide) (fun c3 => ?_) (fun c3 => ?_)
  · rw [if_neg c3] at hF
    refine aw_iconst (v := (0 : Int32)) dX8_runs_18 (by decide) ?_
    cases hF
    exact aw_zret rfl (by decide) dX8_runs_19 rfl rfl rfl
  · rw [if_pos c3] at hF
    refine aw_iconst (v := (1 : Int32)) dX8_runs_14 (by decide) ?_
    refine aw_goto (tgt := 19) dX8_runs_15 (by decide) ?_
    cases hF
    exact aw_zret rfl (by decide) dX8_runs_19 rfl rfl rfl
def fX8_canChange (R : qR) (I : qI) (a0 : Nat) (p1 : Int32) (p2 : Int32) : Option (Int32) :=
  (R.1 a0 5).bind fun r1 =>
  (qrd I R r1 p1).bind fun x2 =>
  (qrd I R r1 p2).bind fun x3 =>
  if x2 = x3 then
    ((R.1 a0 6).bind fun r5 =>
    (qrd I R r5 p1).bind fun x6 =>
    (R.1 a0 7).bind fun r7 =>
    (qrd I R r7 p2).bind fun x8 =>
    if x8 < (x6 + (I a0 2)) then
      (some (0 : Int32))
    else
      (some (1 : Int32)))
  else
    (some (0 : Int32))
set_option maxHeartbeats 4000000 in
set_option maxRecDepth 100000 in
theorem sX8_canChange {l : Launch} {G : qG} {R : qR} {I : qI} {a0 : Nat} {p1 : Int32} {p2 : Int32} {rv : Int32} (hW : qWT R) (ha0 : qok R a0 8) (hF : fX8_canChange R I a0 p1 p2 = some rv) : qMt l G mX8_canChange 1 [.ref (G.1 + a0), .int p1, .int p2] I R (some (.int rv)) I R := by
  unfold fX8_canChange at hF
  refine qMt_of (by decide) (Nat.le_of_ble_eq_true rfl) ⟨Nat.le_refl _, Nat.le_refl _⟩ ?_
  show AW _ 0 [(0, .ref (G.1 + a0)), (1, .int p1), (2, .int p2)] [] I R
  refine aw_aload_n dX8_canChange_0 0 rfl rfl ?_
  obtain ⟨r1, er1, hF⟩ := qbind hF
  have kr1 : qok R r1 9 := hW.get ha0 er1 rfl
  refine aw_getr fl_X8_20 (by decide) fg_X8_5 ha0 er1 rfl dX8_canChange_1 ?_
  refine aw_iload_n dX8_canChange_4 1 rfl rfl ?_
  obtain ⟨x2, ex2, hF⟩ := qbind hF
  refine aw_ialdq kr1 ex2 dX8_canChange_5 ?_
  refine aw_aload_n dX8_canChange_6 0 rfl rfl ?_
  refine aw_getr fl_X8_20 (by decide) fg_X8_5 ha0 er1 rfl dX8_canChange_7 ?_
  refine aw_iload_n dX8_canChange_10 2 rfl rfl ?_
  obtain ⟨x3, ex3, hF⟩ := qbind hF
  refine aw_ialdq kr1 ex3 dX8_canChange_11 ?_
  refine aw_icmp_ne (tgt := 39) dX8_canChange_12 (by decide) (fun c4 => ?_) (fun c4 => ?_)
  · rw [if_neg c4] at hF
    refine aw_iconst (v := (0 : Int32)) dX8_canChange_39 (by decide) ?_
    cases hF
    exact aw_zret rfl (by decide) dX8_canChange_40 rfl rfl rfl
  · rw [if_pos c4] at hF
    refine aw_aload_n dX8_canChange_15 0 rfl rfl ?_
    obtain ⟨r5, er5, hF⟩ := qbind hF
    have kr5 : qok R r5 9 := hW.get ha0 er5 rfl
    refine aw_getr fl_X8_23 (by decide) fg_X8_6 ha0 er5 rfl dX8_canChange_16 ?_
    refine aw_iload_n dX8_canChange_19 1 rfl rfl ?_
    obtain ⟨x6, ex6, hF⟩ := qbind hF
    refine aw_ialdq kr5 ex6 dX8_canChange_20 ?_
    refine aw_aload_n dX8_canChange_21 0 rfl rfl ?_
    refine aw_geti fl_X8_7 (by decide) fg_X8_2 ha0 rfl dX8_canChange_22 ?_
    refine aw_iadd dX8_canChange_25 ?_
    refine aw_aload_n dX8_canChange_26 0 rfl rfl ?_
    obtain ⟨r7, er7, hF⟩ := qbind hF
    have kr7 : qok R r7 9 := hW.get ha0 er7 rfl
    refine aw_getr fl_X8_26 (by decide) fg_X8_7 ha0 er7 rfl dX8_canChange_27 ?_
    refine aw_iload_n dX8_canChange_30 2 rfl rfl ?_
    obtain ⟨x8, ex8, hF⟩ := qbind hF
    refine aw_ialdq kr7 ex8 dX8_canChange_31 ?_
    refine aw_icmp_gt (tgt := 39) dX8_canChange_32 (by decide) (fun c9 => ?_) (fun c9 => ?_)
    · rw [if_pos c9] at hF
      refine aw_iconst (v := (0 : Int32)) dX8_canChange_39 (by decide) ?_
      cases hF
      exact aw_zret rfl (by decide) dX8_canChange_40 rfl rfl rfl
    · rw [if_neg c9] at hF
      refine aw_iconst (v := (1 : Int32)) dX8_canChange_35 (by decide) ?_
      refine aw_goto (tgt := 40) dX8_canChange_36 (by decide) ?_
      cases hF
      exact aw_zret rfl (by decide) dX8_canChange_40 rfl rfl rfl
def cX8_isBoarded_48 (N : Nat) (R : qR) (I : qI) (b0 : Nat) (v1 : Int32) (v4 : Int32) (v5 : Int32) (v6 : Int32) : Option ((Int32) ⊕ ((Unit) ⊕ (Int32))) :=
  (R.1 b0 4).bind fun r7 =>
  (qrd I R r7 v5).bind fun x8 =>
  if x8 ≤ v6 then
    (some (.inr (.inl ())))
  else
    ((R.1 b0 23).bind fun r10 =>
    (qrd I R r10 (((7 : Int32) * v5) + v6)).bind fun x11 =>
    if x11 = 0 then
      (some (.inl (v6 + 1)))
    else
      ((fX8_canChange R I b0 (((7 : Int32) * v5) + v6) v1).bind fun y13 =>
      if y13 = 0 then
        (some (.inl (v6 + 1)))
      else
        (some (.inr (.inr (1 : Int32))))))
set_option maxHeartbeats 4000000 in
set_option maxRecDepth 100000 in
theorem tX8_isBoarded_48 {l : Launch} {G : qG} {N : Nat} {R : qR} {I : qI} {As : List Value} {rv : Option Value} {b0 : Nat} {v1 : Int32} {v4 : Int32} {v5 : Int32} (hW : qWT R) (hb0 : qok R b0 8) {o : (Unit) ⊕ (Int32)} (hx : match o with | .inl _ => AW (Zm l G mX8_isBoarded 2 As R rv I R) 100 [(0, .ref (G.1 + b0)), (1, .int v1), (4, .int v4), (5, .int v5)] [] I R | .inr rrv => rv = some (.int rrv) ∧ True) : ∀ n s, qloop (fun s => cX8_isBoarded_48 N R I b0 v1 v4 v5 s) n s = some o → AW (Zm l G mX8_isBoarded 2 As R rv I R) 48 [(0, .ref (G.1 + b0)), (1, .int v1), (4, .int v4), (5, .int v5), (6, .int s)] [] I R := by
  apply qloop_ind
  intro s x hF hc he
  obtain ⟨v6, rfl⟩ : ∃ z, z = s := ⟨s, rfl⟩
  change cX8_isBoarded_48 N R I b0 v1 v4 v5 v6 = some x at hF
  unfold cX8_isBoarded_48 at hF
  show AW _ 48 [(0, .ref (G.1 + b0)), (1, .int v1), (4, .int v4), (5, .int v5), (6, .int v6)] [] I R
  refine aw_iload dX8_isBoarded_48 4 rfl ?_
  refine aw_aload_n dX8_isBoarded_50 0 rfl rfl ?_
  obtain ⟨r7, er7, hF⟩ := qbind hF
  have kr7 : qok R r7 9 := hW.get hb0 er7 rfl
  refine aw_getr fl_X8_17 (by decide) fg_X8_4 hb0 er7 rfl dX8_isBoarded_51 ?_
  refine aw_iload dX8_isBoarded_54 3 rfl ?_
  obtain ⟨x8, ex8, hF⟩ := qbind hF
  refine aw_ialdq kr7 ex8 dX8_isBoarded_56 ?_
  refine aw_icmp_ge (tgt := 100) dX8_isBoarded_57 (by decide) (fun c9 => ?_) (fun c9 => ?_)
  · rw [if_pos c9] at hF
    cases hF
    have hE := he _ rfl
    subst hE
    exact aw_sub [0, 1, 2, 3] rfl hx
  · rw [if_neg c9] at hF
    refine aw_aload_n dX8_isBoarded_60 0 rfl rfl ?_
    obtain ⟨r10, er10, hF⟩ := qbind hF
    have kr10 : qok R r10 10 := hW.get hb0 er10 rfl
    refine aw_getr fl_X8_66 (by decide) fg_X8_23 hb0 er10 rfl dX8_isBoarded_61 ?_
    refine aw_bipush (v := (7 : Int32)) dX8_isBoarded_64 (by decide) ?_
    refine aw_iload dX8_isBoarded_66 3 rfl ?_
    refine aw_imul dX8_isBoarded_68 ?_
    refine aw_iload dX8_isBoarded_69 4 rfl ?_
    refine aw_iadd dX8_isBoarded_71 ?_
    obtain ⟨x11, ex11, hF⟩ := qbind hF
    refine aw_zaldq kr10 ex11 dX8_isBoarded_72 ?_
    refine aw_if_eq (tgt := 94) dX8_isBoarded_73 (by decide) (fun c12 => ?_) (fun c12 => ?_)
    · rw [if_pos c12] at hF
      refine aw_iinc (q := 4) (v := (v6 + 1)) (lv' := [(6, .int (v6 + 1)), (0, .ref (G.1 + b0)), (1, .int v1), (4, .int v4), (5, .int v5)]) dX8_isBoarded_94 rfl rfl (Nat.le_of_ble_eq_true rfl) rfl ?_
      refine aw_goto (tgt := 48) dX8_isBoarded_97 (by decide) ?_
      cases hF
      exact aw_sub [1, 2, 3, 4, 0] rfl (hc (v6 + 1) rfl)
    · rw [if_neg c12] at hF
      refine aw_aload_n dX8_isBoarded_76 0 rfl rfl ?_
      refine aw_bipush (v := (7 : Int32)) dX8_isBoarded_77 (by decide) ?_
      refine aw_iload dX8_isBoarded_79 3 rfl ?_
      refine aw_imul dX8_isBoarded_81 ?_
      refine aw_iload dX8_isBoarded_82 4 rfl ?_
      refine aw_iadd dX8_isBoarded_84 ?_
      refine aw_iload_n dX8_isBoarded_85 1 rfl rfl ?_
      obtain ⟨y13, ey13, hF⟩ := qbind hF
      refine aw_callVi (As := [.int (((7 : Int32) * v5) + v6), .int v1]) (sX8_canChange hW hb0 ey13) cl_X8_182 rfl (qroomL (by decide) (by decide)) rfl hb0 (Nat.le_of_ble_eq_true rfl) dX8_isBoarded_86 rfl ?_
      refine aw_if_eq (tgt := 94) dX8_isBoarded_89 (by decide) (fun c14 => ?_) (fun c14 => ?_)
      · rw [if_pos c14] at hF
        refine aw_iinc (q := 4) (v := (v6 + 1)) (lv' := [(6, .int (v6 + 1)), (0, .ref (G.1 + b0)), (1, .int v1), (4, .int v4), (5, .int v5)]) dX8_isBoarded_94 rfl rfl (Nat.le_of_ble_eq_true rfl) rfl ?_
        refine aw_goto (tgt := 48) dX8_isBoarded_97 (by decide) ?_
        cases hF
        exact aw_sub [1, 2, 3, 4, 0] rfl (hc (v6 + 1) rfl)
      · rw [if_neg c14] at hF
        refine aw_iconst (v := (1 : Int32)) dX8_isBoarded_92 (by decide) ?_
        cases hF
        have hE := he _ rfl
        subst hE
        exact aw_zret rfl (by decide) dX8_isBoarded_93 hx.1 rfl rfl
def cX8_isBoarded_25 (N : Nat) (R : qR) (I : qI) (b0 : Nat) (v1 : Int32) (v4 : Int32) (v5 : Int32) : Option ((Int32) ⊕ ((Unit) ⊕ (Int32))) :=
  if (I b0 1) ≤ v5 then
    (some (.inr (.inl ())))
  else
    ((fX8_runs R I b0 v5 v4).bind fun y5 =>
    if y5 = 0 then
      (some (.inl (v5 + 1)))
    else
      ((qloop (fun s => cX8_isBoarded_48 N R I b0 v1 v4 v5 s) N (1 : Int32)).bind fun o15 =>
      qx o15 (fun e16 =>
        some (.inl (v5 + 1))) (fun q17 => some (.inr (.inr q17)))))
set_option maxHeartbeats 4000000 in
set_option maxRecDepth 100000 in
theorem tX8_isBoarded_25 {l : Launch} {G : qG} {N : Nat} {R : qR} {I : qI} {As : List Value} {rv : Option Value} {b0 : Nat} {v1 : Int32} {v4 : Int32} (hW : qWT R) (hb0 : qok R b0 8) {o : (Unit) ⊕ (Int32)} (hx : match o with | .inl _ => AW (Zm l G mX8_isBoarded 2 As R rv I R) 106 [] [] I R | .inr rrv => rv = some (.int rrv) ∧ True) : ∀ n s, qloop (fun s => cX8_isBoarded_25 N R I b0 v1 v4 s) n s = some o → AW (Zm l G mX8_isBoarded 2 As R rv I R) 25 [(0, .ref (G.1 + b0)), (1, .int v1), (4, .int v4), (5, .int s)] [] I R := by
  apply qloop_ind
  intro s x hF hc he
  obtain ⟨v5, rfl⟩ : ∃ z, z = s := ⟨s, rfl⟩
  change cX8_isBoarded_25 N R I b0 v1 v4 v5 = some x at hF
  unfold cX8_isBoarded_25 at hF
  show AW _ 25 [(0, .ref (G.1 + b0)), (1, .int v1), (4, .int v4), (5, .int v5)] [] I R
  refine aw_iload dX8_isBoarded_25 3 rfl ?_
  refine aw_aload_n dX8_isBoarded_27 0 rfl rfl ?_
  refine aw_geti fl_X8_97 (by decide) fg_X8_1 hb0 rfl dX8_isBoarded_28 ?_
  refine aw_icmp_ge (tgt := 106) dX8_isBoarded_31 (by decide) (fun c4 => ?_) (fun c4 => ?_)
  · rw [if_pos c4] at hF
    cases hF
    have hE := he _ rfl
    subst hE
    exact aw_sub [] rfl hx
  · rw [if_neg c4] at hF
    refine aw_aload_n dX8_isBoarded_34 0 rfl rfl ?_
    refine aw_iload dX8_isBoarded_35 3 rfl ?_
    refine aw_iload dX8_isBoarded_37 2 rfl ?_
    obtain ⟨y5, ey5, hF⟩ := qbind hF
    refine aw_callVi (As := [.int v5, .int v4]) (sX8_runs hW hb0 ey5) cl_X8_179 rfl (qroomL (by decide) (by decide)) rfl hb0 (Nat.le_of_ble_eq_true rfl) dX8_isBoarded_39 rfl ?_
    refine aw_if_eq (tgt := 100) dX8_isBoarded_42 (by decide) (fun c6 => ?_) (fun c6 => ?_)
    · rw [if_pos c6] at hF
      refine aw_iinc (q := 3) (v := (v5 + 1)) (lv' := [(5, .int (v5 + 1)), (0, .ref (G.1 + b0)), (1, .int v1), (4, .int v4)]) dX8_isBoarded_100 rfl rfl (Nat.le_of_ble_eq_true rfl) rfl ?_
      refine aw_goto (tgt := 25) dX8_isBoarded_103 (by decide) ?_
      cases hF
      exact aw_sub [1, 2, 3, 0] rfl (hc (v5 + 1) rfl)
    · rw [if_neg c6] at hF
      refine aw_iconst (v := (1 : Int32)) dX8_isBoarded_45 (by decide) ?_
      refine aw_istore (lv' := [(6, .int (1 : Int32)), (0, .ref (G.1 + b0)), (1, .int v1), (4, .int v4), (5, .int v5)]) dX8_isBoarded_46 (Nat.le_of_ble_eq_true rfl) rfl ?_
      obtain ⟨o15, eo15, hF⟩ := qbind hF
      refine aw_sub [1, 2, 3, 4, 0] rfl (tX8_isBoarded_48 hW hb0 (o := o15) ?_ N (1 : Int32) eo15)
      cases o15 with
      | inl e16 =>
        replace hF := qxl hF
        show AW _ 100 [(0, .ref (G.1 + b0)), (1, .int v1), (4, .int v4), (5, .int v5)] [] I R
        refine aw_iinc (q := 3) (v := (v5 + 1)) (lv' := [(5, .int (v5 + 1)), (0, .ref (G.1 + b0)), (1, .int v1), (4, .int v4)]) dX8_isBoarded_100 rfl rfl (Nat.le_of_ble_eq_true rfl) rfl ?_
        refine aw_goto (tgt := 25) dX8_isBoarded_103 (by decide) ?_
        cases hF
        exact aw_sub [1, 2, 3, 0] rfl (hc (v5 + 1) rfl)
      | inr q17 =>
        replace hF := qxr hF
        cases hF
        have hE := he _ rfl
        subst hE
        exact hx
def fX8_isBoarded (N : Nat) (R : qR) (I : qI) (a0 : Nat) (p1 : Int32) (p2 : Int32) (p3 : Int32) (p4 : Int32) : Option (Int32) :=
  (R.1 a0 5).bind fun r1 =>
  (qrd I R r1 p1).bind fun x2 =>
  if x2 = p2 then
    ((R.1 a0 7).bind fun r21 =>
    (qrd I R r21 p1).bind fun x22 =>
    if x22 < p3 then
      ((qloop (fun s => cX8_isBoarded_25 N R I a0 p1 p4 s) N (0 : Int32)).bind fun o24 =>
      qx o24 (fun e25 =>
        some (0 : Int32)) (fun q26 => some q26))
    else
      (some (1 : Int32)))
  else
    ((qloop (fun s => cX8_isBoarded_25 N R I a0 p1 p4 s) N (0 : Int32)).bind fun o18 =>
    qx o18 (fun e19 =>
      some (0 : Int32)) (fun q20 => some q20))
set_option maxHeartbeats 4000000 in
set_option maxRecDepth 100000 in
theorem sX8_isBoarded {l : Launch} {G : qG} {N : Nat} {R : qR} {I : qI} {a0 : Nat} {p1 : Int32} {p2 : Int32} {p3 : Int32} {p4 : Int32} {rv : Int32} (hW : qWT R) (ha0 : qok R a0 8) (hF : fX8_isBoarded N R I a0 p1 p2 p3 p4 = some rv) : qMt l G mX8_isBoarded 2 [.ref (G.1 + a0), .int p1, .int p2, .int p3, .int p4] I R (some (.int rv)) I R := by
  unfold fX8_isBoarded at hF
  refine qMt_of (by decide) (Nat.le_of_ble_eq_true rfl) ⟨Nat.le_refl _, Nat.le_refl _⟩ ?_
  show AW _ 0 [(0, .ref (G.1 + a0)), (1, .int p1), (2, .int p2), (3, .int p3), (4, .int p4)] [] I R
  refine aw_aload_n dX8_isBoarded_0 0 rfl rfl ?_
  obtain ⟨r1, er1, hF⟩ := qbind hF
  have kr1 : qok R r1 9 := hW.get ha0 er1 rfl
  refine aw_getr fl_X8_20 (by decide) fg_X8_5 ha0 er1 rfl dX8_isBoarded_1 ?_
  refine aw_iload_n dX8_isBoarded_4 1 rfl rfl ?_
  obtain ⟨x2, ex2, hF⟩ := qbind hF
  refine aw_ialdq kr1 ex2 dX8_isBoarded_5 ?_
  refine aw_iload_n dX8_isBoarded_6 2 rfl rfl ?_
  refine aw_icmp_ne (tgt := 22) dX8_isBoarded_7 (by decide) (fun c3 => ?_) (fun c3 => ?_)
  · rw [if_neg c3] at hF
    refine aw_iconst (v := (0 : Int32)) dX8_isBoarded_22 (by decide) ?_
    refine aw_istore (lv' := [(5, .int (0 : Int32)), (0, .ref (G.1 + a0)), (1, .int p1), (2, .int p2), (3, .int p3), (4, .int p4)]) dX8_isBoarded_23 (Nat.le_of_ble_eq_true rfl) rfl ?_
    obtain ⟨o18, eo18, hF⟩ := qbind hF
    refine aw_sub [1, 2, 5, 0] rfl (tX8_isBoarded_25 hW ha0 (o := o18) ?_ N (0 : Int32) eo18)
    cases o18 with
    | inl e19 =>
      replace hF := qxl hF
      show AW _ 106 [] [] I R
      refine aw_iconst (v := (0 : Int32)) dX8_isBoarded_106 (by decide) ?_
      cases hF
      exact aw_zret rfl (by decide) dX8_isBoarded_107 rfl rfl rfl
    | inr q20 =>
      replace hF := qxr hF
      cases hF
      exact ⟨rfl, trivial⟩
  · rw [if_pos c3] at hF
    refine aw_aload_n dX8_isBoarded_10 0 rfl rfl ?_
    obtain ⟨r21, er21, hF⟩ := qbind hF
    have kr21 : qok R r21 9 := hW.get ha0 er21 rfl
    refine aw_getr fl_X8_26 (by decide) fg_X8_7 ha0 er21 rfl dX8_isBoarded_11 ?_
    refine aw_iload_n dX8_isBoarded_14 1 rfl rfl ?_
    obtain ⟨x22, ex22, hF⟩ := qbind hF
    refine aw_ialdq kr21 ex22 dX8_isBoarded_15 ?_
    refine aw_iload_n dX8_isBoarded_16 3 rfl rfl ?_
    refine aw_icmp_lt (tgt := 22) dX8_isBoarded_17 (by decide) (fun c23 => ?_) (fun c23 => ?_)
    · rw [if_pos c23] at hF
      refine aw_iconst (v := (0 : Int32)) dX8_isBoarded_22 (by decide) ?_
      refine aw_istore (lv' := [(5, .int (0 : Int32)), (0, .ref (G.1 + a0)), (1, .int p1), (2, .int p2), (3, .int p3), (4, .int p4)]) dX8_isBoarded_23 (Nat.le_of_ble_eq_true rfl) rfl ?_
      obtain ⟨o24, eo24, hF⟩ := qbind hF
      refine aw_sub [1, 2, 5, 0] rfl (tX8_isBoarded_25 hW ha0 (o := o24) ?_ N (0 : Int32) eo24)
      cases o24 with
      | inl e25 =>
        replace hF := qxl hF
        show AW _ 106 [] [] I R
        refine aw_iconst (v := (0 : Int32)) dX8_isBoarded_106 (by decide) ?_
        cases hF
        exact aw_zret rfl (by decide) dX8_isBoarded_107 rfl rfl rfl
      | inr q26 =>
        replace hF := qxr hF
        cases hF
        exact ⟨rfl, trivial⟩
    · rw [if_neg c23] at hF
      refine aw_iconst (v := (1 : Int32)) dX8_isBoarded_20 (by decide) ?_
      cases hF
      exact aw_zret rfl (by decide) dX8_isBoarded_21 rfl rfl rfl
