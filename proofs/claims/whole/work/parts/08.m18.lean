def cX8_findRows_4 (N : Nat) (R : qR) (I : qI) (b0 : Nat) (v1 : Int32) (v2 : Int32) : Option ((Int32 × Int32) ⊕ (Int32)) :=
  if (I b0 10) ≤ v2 then
    (some (.inr v1))
  else
    ((R.1 b0 13).bind fun r2 =>
    (qrd I R r2 v2).bind fun x3 =>
    some (.inl ((v1 ||| (x3 <<< (((3 : Int32) * v2) &&& 31))), (v2 + 1))))
set_option maxHeartbeats 4000000 in
set_option maxRecDepth 100000 in
theorem tX8_findRows_4 {l : Launch} {G : qG} {N : Nat} {R : qR} {I : qI} {As : List Value} {rv : Option Value} {I1 : qI} {b0 : Nat} (hW : qWT R) (hb0 : qok R b0 8) {o : Int32} (hx : AW (Zm l G mX8_findRows 3 As R rv I1 R) 31 [(0, .ref (G.1 + b0)), (1, .int o)] [] I R) : ∀ n s, qloop (fun s => cX8_findRows_4 N R I b0 s.1 s.2) n s = some o → (match s with | (v1, v2) => AW (Zm l G mX8_findRows 3 As R rv I1 R) 4 [(0, .ref (G.1 + b0)), (1, .int v1), (2, .int v2)] [] I R) := by
  apply qloop_ind
  intro s x hF hc he
  obtain ⟨v1, v2⟩ := s
  change cX8_findRows_4 N R I b0 v1 v2 = some x at hF
  unfold cX8_findRows_4 at hF
  show AW _ 4 [(0, .ref (G.1 + b0)), (1, .int v1), (2, .int v2)] [] I R
  refine aw_iload_n dX8_findRows_4 2 rfl rfl ?_
  refine aw_aload_n dX8_findRows_5 0 rfl rfl ?_
  refine aw_geti fl_X8_120 (by decide) fg_X8_10 hb0 rfl dX8_findRows_6 ?_
  refine aw_icmp_ge (tgt := 31) dX8_findRows_9 (by decide) (fun c1 => ?_) (fun c1 => ?_)
  · rw [if_pos c1] at hF
    cases hF
    have hE := he _ rfl
    subst hE
    exact aw_sub [0, 1] rfl hx
  · rw [if_neg c1] at hF
    refine aw_iload_n dX8_findRows_12 1 rfl rfl ?_
    refine aw_aload_n dX8_findRows_13 0 rfl rfl ?_
    obtain ⟨r2, er2, hF⟩ := qbind hF
    have kr2 : qok R r2 9 := hW.get hb0 er2 rfl
    refine aw_getr fl_X8_38 (by decide) fg_X8_13 hb0 er2 rfl dX8_findRows_14 ?_
    refine aw_iload_n dX8_findRows_17 2 rfl rfl ?_
    obtain ⟨x3, ex3, hF⟩ := qbind hF
    refine aw_ialdq kr2 ex3 dX8_findRows_18 ?_
    refine aw_iconst (v := (3 : Int32)) dX8_findRows_19 (by decide) ?_
    refine aw_iload_n dX8_findRows_20 2 rfl rfl ?_
    refine aw_imul dX8_findRows_21 ?_
    refine aw_ishl dX8_findRows_22 ?_
    refine aw_ior dX8_findRows_23 ?_
    refine aw_istore_n (lv' := [(1, .int (v1 ||| (x3 <<< (((3 : Int32) * v2) &&& 31)))), (0, .ref (G.1 + b0)), (2, .int v2)]) dX8_findRows_24 rfl (Nat.le_of_ble_eq_true rfl) rfl ?_
    refine aw_iinc (q := 2) (v := (v2 + 1)) (lv' := [(2, .int (v2 + 1)), (1, .int (v1 ||| (x3 <<< (((3 : Int32) * v2) &&& 31)))), (0, .ref (G.1 + b0))]) dX8_findRows_25 rfl rfl (Nat.le_of_ble_eq_true rfl) rfl ?_
    refine aw_goto (tgt := 4) dX8_findRows_28 (by decide) ?_
    cases hF
    exact aw_sub [2, 1, 0] rfl (hc ((v1 ||| (x3 <<< (((3 : Int32) * v2) &&& 31))), (v2 + 1)) rfl)
def cX8_findRows_64 (N : Nat) (R : qR) (I : qI) (b0 : Nat) (v1 : Int32) (v2 : Int32) (v3 : Int32) (v4 : Int32) : Option ((Int32 × Int32) ⊕ (Int32)) :=
  if (12 : Int32) ≤ v4 then
    (some (.inr v3))
  else
    (if v2 = v1 then
      (some (.inr v3))
    else
      ((fX8_behind N R I b0 v2 v4).bind fun y11 =>
      if y11 = v2 then
        (some (.inl (v3, (v4 + 1))))
      else
        ((R.1 b0 21).bind fun r13 =>
        (qrd I R r13 y11).bind fun x14 =>
        if v3 ≤ (x14 + (1 : Int32)) then
          (some (.inl (v3, (v4 + 1))))
        else
          (some (.inl ((x14 + (1 : Int32)), (v4 + 1)))))))
set_option maxHeartbeats 4000000 in
set_option maxRecDepth 100000 in
theorem tX8_findRows_64 {l : Launch} {G : qG} {N : Nat} {R : qR} {I : qI} {As : List Value} {rv : Option Value} {I1 : qI} {b0 : Nat} {v1 : Int32} {v2 : Int32} (hW : qWT R) (hb0 : qok R b0 8) {o : Int32} (hx : AW (Zm l G mX8_findRows 3 As R rv I1 R) 120 [(0, .ref (G.1 + b0)), (1, .int v1), (2, .int v2), (3, .int o)] [] I R) : ∀ n s, qloop (fun s => cX8_findRows_64 N R I b0 v1 v2 s.1 s.2) n s = some o → (match s with | (v3, v4) => AW (Zm l G mX8_findRows 3 As R rv I1 R) 64 [(0, .ref (G.1 + b0)), (1, .int v1), (2, .int v2), (3, .int v3), (4, .int v4)] [] I R) := by
  apply qloop_ind
  intro s x hF hc he
  obtain ⟨v3, v4⟩ := s
  change cX8_findRows_64 N R I b0 v1 v2 v3 v4 = some x at hF
  unfold cX8_findRows_64 at hF
  show AW _ 64 [(0, .ref (G.1 + b0)), (1, .int v1), (2, .int v2), (3, .int v3), (4, .int v4)] [] I R
  refine aw_iload dX8_findRows_64 4 rfl ?_
  refine aw_bipush (v := (12 : Int32)) dX8_findRows_66 (by decide) ?_
  refine aw_icmp_ge (tgt := 120) dX8_findRows_68 (by decide) (fun c9 => ?_) (fun c9 => ?_)
  · rw [if_pos c9] at hF
    cases hF
    have hE := he _ rfl
    subst hE
    exact aw_sub [0, 1, 2, 3] rfl hx
  · rw [if_neg c9] at hF
    refine aw_iload_n dX8_findRows_71 2 rfl rfl ?_
    refine aw_iload_n dX8_findRows_72 1 rfl rfl ?_
    refine aw_icmp_eq (tgt := 120) dX8_findRows_73 (by decide) (fun c10 => ?_) (fun c10 => ?_)
    · rw [if_pos c10] at hF
      cases hF
      have hE := he _ rfl
      subst hE
      exact aw_sub [0, 1, 2, 3] rfl hx
    · rw [if_neg c10] at hF
      refine aw_aload_n dX8_findRows_76 0 rfl rfl ?_
      refine aw_iload_n dX8_findRows_77 2 rfl rfl ?_
      refine aw_iload dX8_findRows_78 4 rfl ?_
      obtain ⟨y11, ey11, hF⟩ := qbind hF
      refine aw_callVi (As := [.int v2, .int v4]) (sX8_behind hW hb0 ey11) cl_X8_133 rfl (qroomL (by decide) (by decide)) rfl hb0 (Nat.le_of_ble_eq_true rfl) dX8_findRows_80 rfl ?_
      refine aw_istore (lv' := [(5, .int y11), (0, .ref (G.1 + b0)), (1, .int v1), (2, .int v2), (3, .int v3), (4, .int v4)]) dX8_findRows_83 (Nat.le_of_ble_eq_true rfl) rfl ?_
      refine aw_iload dX8_findRows_85 0 rfl ?_
      refine aw_iload_n dX8_findRows_87 3 rfl rfl ?_
      refine aw_icmp_eq (tgt := 114) dX8_findRows_88 (by decide) (fun c12 => ?_) (fun c12 => ?_)
      · rw [if_pos c12] at hF
        refine aw_iinc (q := 5) (v := (v4 + 1)) (lv' := [(4, .int (v4 + 1)), (5, .int y11), (0, .ref (G.1 + b0)), (1, .int v1), (2, .int v2), (3, .int v3)]) dX8_findRows_114 rfl rfl (Nat.le_of_ble_eq_true rfl) rfl ?_
        refine aw_goto (tgt := 64) dX8_findRows_117 (by decide) ?_
        cases hF
        exact aw_sub [2, 3, 4, 5, 0] rfl (hc (v3, (v4 + 1)) rfl)
      · rw [if_neg c12] at hF
        refine aw_aload_n dX8_findRows_91 1 rfl rfl ?_
        obtain ⟨r13, er13, hF⟩ := qbind hF
        have kr13 : qok R r13 9 := hW.get hb0 er13 rfl
        refine aw_getr fl_X8_60 (by decide) fg_X8_21 hb0 er13 rfl dX8_findRows_92 ?_
        refine aw_iload dX8_findRows_95 0 rfl ?_
        obtain ⟨x14, ex14, hF⟩ := qbind hF
        refine aw_ialdq kr13 ex14 dX8_findRows_97 ?_
        refine aw_iconst (v := (1 : Int32)) dX8_findRows_98 (by decide) ?_
        refine aw_iadd dX8_findRows_99 ?_
        refine aw_iload_n dX8_findRows_100 4 rfl rfl ?_
        refine aw_icmp_ge (tgt := 114) dX8_findRows_101 (by decide) (fun c15 => ?_) (fun c15 => ?_)
        · rw [if_pos c15] at hF
          refine aw_iinc (q := 5) (v := (v4 + 1)) (lv' := [(4, .int (v4 + 1)), (5, .int y11), (0, .ref (G.1 + b0)), (1, .int v1), (2, .int v2), (3, .int v3)]) dX8_findRows_114 rfl rfl (Nat.le_of_ble_eq_true rfl) rfl ?_
          refine aw_goto (tgt := 64) dX8_findRows_117 (by decide) ?_
          cases hF
          exact aw_sub [2, 3, 4, 5, 0] rfl (hc (v3, (v4 + 1)) rfl)
        · rw [if_neg c15] at hF
          refine aw_aload_n dX8_findRows_104 1 rfl rfl ?_
          refine aw_getr fl_X8_60 (by decide) fg_X8_21 hb0 er13 rfl dX8_findRows_105 ?_
          refine aw_iload dX8_findRows_108 0 rfl ?_
          refine aw_ialdq kr13 ex14 dX8_findRows_110 ?_
          refine aw_iconst (v := (1 : Int32)) dX8_findRows_111 (by decide) ?_
          refine aw_iadd dX8_findRows_112 ?_
          refine aw_istore_n (lv' := [(3, .int (x14 + (1 : Int32))), (5, .int y11), (0, .ref (G.1 + b0)), (1, .int v1), (2, .int v2), (4, .int v4)]) dX8_findRows_113 rfl (Nat.le_of_ble_eq_true rfl) rfl ?_
          refine aw_iinc (q := 5) (v := (v4 + 1)) (lv' := [(4, .int (v4 + 1)), (3, .int (x14 + (1 : Int32))), (5, .int y11), (0, .ref (G.1 + b0)), (1, .int v1), (2, .int v2)]) dX8_findRows_114 rfl rfl (Nat.le_of_ble_eq_true rfl) rfl ?_
          refine aw_goto (tgt := 64) dX8_findRows_117 (by decide) ?_
          cases hF
          exact aw_sub [3, 4, 5, 1, 0] rfl (hc ((x14 + (1 : Int32)), (v4 + 1)) rfl)
def cX8_findRows_33 (N : Nat) (R : qR) (b0 : Nat) (v1 : Int32) (v2 : Int32) (I : qI) : Option ((Int32 × qI) ⊕ (qI)) :=
  if v2 < 0 then
    (some (.inr I))
  else
    ((fX8_isPlace N R I b0 v2).bind fun y6 =>
    if y6 = 0 then
      (some (.inl ((v2 + (-1)), I)))
    else
      (if v2 = v1 then
        ((qloop (fun s => cX8_findRows_64 N R I b0 v1 v2 s.1 s.2) N ((0 : Int32), (0 : Int32))).bind fun o19 =>
        (R.1 b0 21).bind fun r20 =>
        (qwr I R r20 v2 o19).bind fun I21 =>
        some (.inl ((v2 + (-1)), I21)))
      else
        ((qloop (fun s => cX8_findRows_64 N R I b0 v1 v2 s.1 s.2) N ((1000 : Int32), (0 : Int32))).bind fun o16 =>
        (R.1 b0 21).bind fun r17 =>
        (qwr I R r17 v2 o16).bind fun I18 =>
        some (.inl ((v2 + (-1)), I18)))))
set_option maxHeartbeats 4000000 in
set_option maxRecDepth 100000 in
theorem tX8_findRows_33 {l : Launch} {G : qG} {N : Nat} {R : qR} {As : List Value} {rv : Option Value} {I1 : qI} {b0 : Nat} {v1 : Int32} (hW : qWT R) (hb0 : qok R b0 8) {o : qI} (hx : AW (Zm l G mX8_findRows 3 As R rv I1 R) 133 [(0, .ref (G.1 + b0)), (1, .int v1)] [] o R) : ∀ n s, qloop (fun s => cX8_findRows_33 N R b0 v1 s.1 s.2) n s = some o → (match s with | (v2, I) => AW (Zm l G mX8_findRows 3 As R rv I1 R) 33 [(0, .ref (G.1 + b0)), (1, .int v1), (2, .int v2)] [] I R) := by
  apply qloop_ind
  intro s x hF hc he
  obtain ⟨v2, I⟩ := s
  change cX8_findRows_33 N R b0 v1 v2 I = some x at hF
  unfold cX8_findRows_33 at hF
  show AW _ 33 [(0, .ref (G.1 + b0)), (1, .int v1), (2, .int v2)] [] I R
  refine aw_iload_n dX8_findRows_33 2 rfl rfl ?_
  refine aw_if_lt (tgt := 133) dX8_findRows_34 (by decide) (fun c5 => ?_) (fun c5 => ?_)
  · rw [if_pos c5] at hF
    cases hF
    have hE := he _ rfl
    subst hE
    exact aw_sub [0, 1] rfl hx
  · rw [if_neg c5] at hF
    refine aw_aload_n dX8_findRows_37 0 rfl rfl ?_
    refine aw_iload_n dX8_findRows_38 2 rfl rfl ?_
    obtain ⟨y6, ey6, hF⟩ := qbind hF
    refine aw_callVi (As := [.int v2]) (sX8_isPlace hW hb0 ey6) cl_X8_130 rfl (qroomL (by decide) (by decide)) rfl hb0 (Nat.le_of_ble_eq_true rfl) dX8_findRows_39 rfl ?_
    refine aw_if_ne (tgt := 48) dX8_findRows_42 (by decide) (fun c7 => ?_) (fun c7 => ?_)
    · rw [if_neg c7] at hF
      refine aw_iload_n dX8_findRows_48 2 rfl rfl ?_
      refine aw_iload_n dX8_findRows_49 1 rfl rfl ?_
      refine aw_icmp_ne (tgt := 57) dX8_findRows_50 (by decide) (fun c8 => ?_) (fun c8 => ?_)
      · rw [if_neg c8] at hF
        refine aw_sipush (v := (1000 : Int32)) dX8_findRows_57 (by decide) ?_
        refine aw_istore_n (lv' := [(3, .int (1000 : Int32)), (0, .ref (G.1 + b0)), (1, .int v1), (2, .int v2)]) dX8_findRows_60 rfl (Nat.le_of_ble_eq_true rfl) rfl ?_
        refine aw_iconst (v := (0 : Int32)) dX8_findRows_61 (by decide) ?_
        refine aw_istore (lv' := [(4, .int (0 : Int32)), (3, .int (1000 : Int32)), (0, .ref (G.1 + b0)), (1, .int v1), (2, .int v2)]) dX8_findRows_62 (Nat.le_of_ble_eq_true rfl) rfl ?_
        obtain ⟨o16, eo16, hF⟩ := qbind hF
        refine aw_sub [2, 3, 4, 1, 0] rfl (tX8_findRows_64 hW hb0 (o := o16) ?_ N ((1000 : Int32), (0 : Int32)) eo16)
        show AW _ 120 [(0, .ref (G.1 + b0)), (1, .int v1), (2, .int v2), (3, .int o16)] [] I R
        refine aw_aload_n dX8_findRows_120 0 rfl rfl ?_
        obtain ⟨r17, er17, hF⟩ := qbind hF
        have kr17 : qok R r17 9 := hW.get hb0 er17 rfl
        refine aw_getr fl_X8_60 (by decide) fg_X8_21 hb0 er17 rfl dX8_findRows_121 ?_
        refine aw_iload_n dX8_findRows_124 2 rfl rfl ?_
        refine aw_iload_n dX8_findRows_125 3 rfl rfl ?_
        obtain ⟨I18, eI18, hF⟩ := qbind hF
        refine aw_iastq kr17 eI18 dX8_findRows_126 ?_
        refine aw_iinc (q := 2) (v := (v2 + (-1))) (lv' := [(2, .int (v2 + (-1))), (0, .ref (G.1 + b0)), (1, .int v1), (3, .int o16)]) dX8_findRows_127 rfl rfl (Nat.le_of_ble_eq_true rfl) rfl ?_
        refine aw_goto (tgt := 33) dX8_findRows_130 (by decide) ?_
        cases hF
        exact aw_sub [1, 2, 0] rfl (hc ((v2 + (-1)), I18) rfl)
      · rw [if_pos c8] at hF
        refine aw_iconst (v := (0 : Int32)) dX8_findRows_53 (by decide) ?_
        refine aw_goto (tgt := 60) dX8_findRows_54 (by decide) ?_
        refine aw_istore_n (lv' := [(3, .int (0 : Int32)), (0, .ref (G.1 + b0)), (1, .int v1), (2, .int v2)]) dX8_findRows_60 rfl (Nat.le_of_ble_eq_true rfl) rfl ?_
        refine aw_iconst (v := (0 : Int32)) dX8_findRows_61 (by decide) ?_
        refine aw_istore (lv' := [(4, .int (0 : Int32)), (3, .int (0 : Int32)), (0, .ref (G.1 + b0)), (1, .int v1), (2, .int v2)]) dX8_findRows_62 (Nat.le_of_ble_eq_true rfl) rfl ?_
        obtain ⟨o19, eo19, hF⟩ := qbind hF
        refine aw_sub [2, 3, 4, 1, 0] rfl (tX8_findRows_64 hW hb0 (o := o19) ?_ N ((0 : Int32), (0 : Int32)) eo19)
        show AW _ 120 [(0, .ref (G.1 + b0)), (1, .int v1), (2, .int v2), (3, .int o19)] [] I R
        refine aw_aload_n dX8_findRows_120 0 rfl rfl ?_
        obtain ⟨r20, er20, hF⟩ := qbind hF
        have kr20 : qok R r20 9 := hW.get hb0 er20 rfl
        refine aw_getr fl_X8_60 (by decide) fg_X8_21 hb0 er20 rfl dX8_findRows_121 ?_
        refine aw_iload_n dX8_findRows_124 2 rfl rfl ?_
        refine aw_iload_n dX8_findRows_125 3 rfl rfl ?_
        obtain ⟨I21, eI21, hF⟩ := qbind hF
        refine aw_iastq kr20 eI21 dX8_findRows_126 ?_
        refine aw_iinc (q := 2) (v := (v2 + (-1))) (lv' := [(2, .int (v2 + (-1))), (0, .ref (G.1 + b0)), (1, .int v1), (3, .int o19)]) dX8_findRows_127 rfl rfl (Nat.le_of_ble_eq_true rfl) rfl ?_
        refine aw_goto (tgt := 33) dX8_findRows_130 (by decide) ?_
        cases hF
        exact aw_sub [1, 2, 0] rfl (hc ((v2 + (-1)), I21) rfl)
    · rw [if_pos c7] at hF
      refine aw_goto (tgt := 127) dX8_findRows_45 (by decide) ?_
      refine aw_iinc (q := 2) (v := (v2 + (-1))) (lv' := [(2, .int (v2 + (-1))), (0, .ref (G.1 + b0)), (1, .int v1)]) dX8_findRows_127 rfl rfl (Nat.le_of_ble_eq_true rfl) rfl ?_
      refine aw_goto (tgt := 33) dX8_findRows_130 (by decide) ?_
      cases hF
      exact aw_sub [1, 2, 0] rfl (hc ((v2 + (-1)), I) rfl)
def cX8_findRows_147 (N : Nat) (R : qR) (I : qI) (b0 : Nat) (v1 : Int32) (v2 : Int32) (v3 : Int32) : Option ((Int32) ⊕ (Int32)) :=
  (fX8_behind N R I b0 v2 v3).bind fun y25 =>
  if y25 = v2 then
    (some (.inl (v3 + (1 : Int32))))
  else
    ((R.1 b0 21).bind fun r27 =>
    (fX8_behind N R I b0 v2 v3).bind fun y28 =>
    (qrd I R r27 y28).bind fun x29 =>
    (qrd I R r27 v2).bind fun x30 =>
    if (x29 + (1 : Int32)) = x30 then
      (some (.inr v3))
    else
      (some (.inl (v3 + (1 : Int32)))))
set_option maxHeartbeats 4000000 in
set_option maxRecDepth 100000 in
theorem tX8_findRows_147 {l : Launch} {G : qG} {N : Nat} {R : qR} {I : qI} {As : List Value} {rv : Option Value} {I1 : qI} {b0 : Nat} {v1 : Int32} {v2 : Int32} (hW : qWT R) (hb0 : qok R b0 8) {o : Int32} (hx : AW (Zm l G mX8_findRows 3 As R rv I1 R) 186 [(0, .ref (G.1 + b0)), (1, .int v1), (2, .int v2), (3, .int o)] [] I R) : ∀ n s, qloop (fun s => cX8_findRows_147 N R I b0 v1 v2 s) n s = some o → AW (Zm l G mX8_findRows 3 As R rv I1 R) 147 [(0, .ref (G.1 + b0)), (1, .int v1), (2, .int v2), (3, .int s)] [] I R := by
  apply qloop_ind
  intro s x hF hc he
  obtain ⟨v3, rfl⟩ : ∃ z, z = s := ⟨s, rfl⟩
  change cX8_findRows_147 N R I b0 v1 v2 v3 = some x at hF
  unfold cX8_findRows_147 at hF
  show AW _ 147 [(0, .ref (G.1 + b0)), (1, .int v1), (2, .int v2), (3, .int v3)] [] I R
  refine aw_aload_n dX8_findRows_147 0 rfl rfl ?_
  refine aw_iload_n dX8_findRows_148 2 rfl rfl ?_
  refine aw_iload_n dX8_findRows_149 3 rfl rfl ?_
  obtain ⟨y25, ey25, hF⟩ := qbind hF
  refine aw_callVi (As := [.int v2, .int v3]) (sX8_behind hW hb0 ey25) cl_X8_133 rfl (qroomL (by decide) (by decide)) rfl hb0 (Nat.le_of_ble_eq_true rfl) dX8_findRows_150 rfl ?_
  refine aw_iload_n dX8_findRows_153 2 rfl rfl ?_
  refine aw_icmp_eq (tgt := 179) dX8_findRows_154 (by decide) (fun c26 => ?_) (fun c26 => ?_)
  · rw [if_pos c26] at hF
    refine aw_iload_n dX8_findRows_179 3 rfl rfl ?_
    refine aw_iconst (v := (1 : Int32)) dX8_findRows_180 (by decide) ?_
    refine aw_iadd dX8_findRows_181 ?_
    refine aw_istore_n (lv' := [(3, .int (v3 + (1 : Int32))), (0, .ref (G.1 + b0)), (1, .int v1), (2, .int v2)]) dX8_findRows_182 rfl (Nat.le_of_ble_eq_true rfl) rfl ?_
    refine aw_goto (tgt := 147) dX8_findRows_183 (by decide) ?_
    cases hF
    exact aw_sub [1, 2, 3, 0] rfl (hc (v3 + (1 : Int32)) rfl)
  · rw [if_neg c26] at hF
    refine aw_aload_n dX8_findRows_157 0 rfl rfl ?_
    obtain ⟨r27, er27, hF⟩ := qbind hF
    have kr27 : qok R r27 9 := hW.get hb0 er27 rfl
    refine aw_getr fl_X8_60 (by decide) fg_X8_21 hb0 er27 rfl dX8_findRows_158 ?_
    refine aw_aload_n dX8_findRows_161 0 rfl rfl ?_
    refine aw_iload_n dX8_findRows_162 2 rfl rfl ?_
    refine aw_iload_n dX8_findRows_163 3 rfl rfl ?_
    obtain ⟨y28, ey28, hF⟩ := qbind hF
    refine aw_callVi (As := [.int v2, .int v3]) (sX8_behind hW hb0 ey28) cl_X8_133 rfl (qroomL (by decide) (by decide)) rfl hb0 (Nat.le_of_ble_eq_true rfl) dX8_findRows_164 rfl ?_
    obtain ⟨x29, ex29, hF⟩ := qbind hF
    refine aw_ialdq kr27 ex29 dX8_findRows_167 ?_
    refine aw_iconst (v := (1 : Int32)) dX8_findRows_168 (by decide) ?_
    refine aw_iadd dX8_findRows_169 ?_
    refine aw_aload_n dX8_findRows_170 0 rfl rfl ?_
    refine aw_getr fl_X8_60 (by decide) fg_X8_21 hb0 er27 rfl dX8_findRows_171 ?_
    refine aw_iload_n dX8_findRows_174 2 rfl rfl ?_
    obtain ⟨x30, ex30, hF⟩ := qbind hF
    refine aw_ialdq kr27 ex30 dX8_findRows_175 ?_
    refine aw_icmp_eq (tgt := 186) dX8_findRows_176 (by decide) (fun c31 => ?_) (fun c31 => ?_)
    · rw [if_pos c31] at hF
      cases hF
      have hE := he _ rfl
      subst hE
      exact aw_sub [0, 1, 2, 3] rfl hx
    · rw [if_neg c31] at hF
      refine aw_iload_n dX8_findRows_179 3 rfl rfl ?_
      refine aw_iconst (v := (1 : Int32)) dX8_findRows_180 (by decide) ?_
      refine aw_iadd dX8_findRows_181 ?_
      refine aw_istore_n (lv' := [(3, .int (v3 + (1 : Int32))), (0, .ref (G.1 + b0)), (1, .int v1), (2, .int v2)]) dX8_findRows_182 rfl (Nat.le_of_ble_eq_true rfl) rfl ?_
      refine aw_goto (tgt := 147) dX8_findRows_183 (by decide) ?_
      cases hF
      exact aw_sub [1, 2, 3, 0] rfl (hc (v3 + (1 : Int32)) rfl)
def cX8_findRows_199 (N : Nat) (R : qR) (b0 : Nat) (v1 : Int32) (v2 : Int32) (v3 : Int32) (v4 : Int32) (I : qI) : Option ((Int32 × qI) ⊕ (qI)) :=
  if (I b0 10) ≤ v4 then
    (some (.inr I))
  else
    ((fX8_behind N R I b0 v2 v3).bind fun y36 =>
    (fX8_digit R I b0 y36 v4).bind fun y37 =>
    (fX8_digit R I b0 v2 v4).bind fun y38 =>
    if y37 ≤ y38 then
      (some (.inl ((v4 + 1), I)))
    else
      ((R.1 b0 17).bind fun r40 =>
      (fX8_digit R I b0 v2 v4).bind fun y41 =>
      (qwr I R r40 (((7 : Int32) * v4) + y41) (I b0 9)).bind fun I42 =>
      some (.inl ((v4 + 1), I42))))
set_option maxHeartbeats 4000000 in
set_option maxRecDepth 100000 in
theorem tX8_findRows_199 {l : Launch} {G : qG} {N : Nat} {R : qR} {As : List Value} {rv : Option Value} {I1 : qI} {b0 : Nat} {v1 : Int32} {v2 : Int32} {v3 : Int32} (hW : qWT R) (hb0 : qok R b0 8) {o : qI} (hx : AW (Zm l G mX8_findRows 3 As R rv I1 R) 258 [(0, .ref (G.1 + b0)), (1, .int v1), (2, .int v2), (3, .int v3)] [] o R) : ∀ n s, qloop (fun s => cX8_findRows_199 N R b0 v1 v2 v3 s.1 s.2) n s = some o → (match s with | (v4, I) => AW (Zm l G mX8_findRows 3 As R rv I1 R) 199 [(0, .ref (G.1 + b0)), (1, .int v1), (2, .int v2), (3, .int v3), (4, .int v4)] [] I R) := by
  apply qloop_ind
  intro s x hF hc he
  obtain ⟨v4, I⟩ := s
  change cX8_findRows_199 N R b0 v1 v2 v3 v4 I = some x at hF
  unfold cX8_findRows_199 at hF
  show AW _ 199 [(0, .ref (G.1 + b0)), (1, .int v1), (2, .int v2), (3, .int v3), (4, .int v4)] [] I R
  refine aw_iload dX8_findRows_199 4 rfl ?_
  refine aw_aload_n dX8_findRows_201 0 rfl rfl ?_
  refine aw_geti fl_X8_120 (by decide) fg_X8_10 hb0 rfl dX8_findRows_202 ?_
  refine aw_icmp_ge (tgt := 258) dX8_findRows_205 (by decide) (fun c35 => ?_) (fun c35 => ?_)
  · rw [if_pos c35] at hF
    cases hF
    have hE := he _ rfl
    subst hE
    exact aw_sub [0, 1, 2, 3] rfl hx
  · rw [if_neg c35] at hF
    refine aw_aload_n dX8_findRows_208 0 rfl rfl ?_
    refine aw_aload_n dX8_findRows_209 0 rfl rfl ?_
    refine aw_iload_n dX8_findRows_210 2 rfl rfl ?_
    refine aw_iload_n dX8_findRows_211 3 rfl rfl ?_
    obtain ⟨y36, ey36, hF⟩ := qbind hF
    refine aw_callVi (As := [.int v2, .int v3]) (sX8_behind hW hb0 ey36) cl_X8_133 rfl (qroomL (by decide) (by decide)) rfl hb0 (Nat.le_of_ble_eq_true rfl) dX8_findRows_212 rfl ?_
    refine aw_iload dX8_findRows_215 4 rfl ?_
    obtain ⟨y37, ey37, hF⟩ := qbind hF
    refine aw_callVi (As := [.int y36, .int v4]) (sX8_digit hW hb0 ey37) cl_X8_127 rfl (qroomL (by decide) (by decide)) rfl hb0 (Nat.le_of_ble_eq_true rfl) dX8_findRows_217 rfl ?_
    refine aw_aload_n dX8_findRows_220 0 rfl rfl ?_
    refine aw_iload_n dX8_findRows_221 2 rfl rfl ?_
    refine aw_iload dX8_findRows_222 4 rfl ?_
    obtain ⟨y38, ey38, hF⟩ := qbind hF
    refine aw_callVi (As := [.int v2, .int v4]) (sX8_digit hW hb0 ey38) cl_X8_127 rfl (qroomL (by decide) (by decide)) rfl hb0 (Nat.le_of_ble_eq_true rfl) dX8_findRows_224 rfl ?_
    refine aw_icmp_le (tgt := 252) dX8_findRows_227 (by decide) (fun c39 => ?_) (fun c39 => ?_)
    · rw [if_pos c39] at hF
      refine aw_iinc (q := 4) (v := (v4 + 1)) (lv' := [(4, .int (v4 + 1)), (0, .ref (G.1 + b0)), (1, .int v1), (2, .int v2), (3, .int v3)]) dX8_findRows_252 rfl rfl (Nat.le_of_ble_eq_true rfl) rfl ?_
      refine aw_goto (tgt := 199) dX8_findRows_255 (by decide) ?_
      cases hF
      exact aw_sub [1, 2, 3, 4, 0] rfl (hc ((v4 + 1), I) rfl)
    · rw [if_neg c39] at hF
      refine aw_aload_n dX8_findRows_230 0 rfl rfl ?_
      obtain ⟨r40, er40, hF⟩ := qbind hF
      have kr40 : qok R r40 9 := hW.get hb0 er40 rfl
      refine aw_getr fl_X8_50 (by decide) fg_X8_17 hb0 er40 rfl dX8_findRows_231 ?_
      refine aw_bipush (v := (7 : Int32)) dX8_findRows_234 (by decide) ?_
      refine aw_iload dX8_findRows_236 4 rfl ?_
      refine aw_imul dX8_findRows_238 ?_
      refine aw_aload_n dX8_findRows_239 0 rfl rfl ?_
      refine aw_iload_n dX8_findRows_240 2 rfl rfl ?_
      refine aw_iload dX8_findRows_241 4 rfl ?_
      obtain ⟨y41, ey41, hF⟩ := qbind hF
      refine aw_callVi (As := [.int v2, .int v4]) (sX8_digit hW hb0 ey41) cl_X8_127 rfl (qroomL (by decide) (by decide)) rfl hb0 (Nat.le_of_ble_eq_true rfl) dX8_findRows_243 rfl ?_
      refine aw_iadd dX8_findRows_246 ?_
      refine aw_aload_n dX8_findRows_247 0 rfl rfl ?_
      refine aw_geti fl_X8_117 (by decide) fg_X8_9 hb0 rfl dX8_findRows_248 ?_
      obtain ⟨I42, eI42, hF⟩ := qbind hF
      refine aw_iastq kr40 eI42 dX8_findRows_251 ?_
      refine aw_iinc (q := 4) (v := (v4 + 1)) (lv' := [(4, .int (v4 + 1)), (0, .ref (G.1 + b0)), (1, .int v1), (2, .int v2), (3, .int v3)]) dX8_findRows_252 rfl rfl (Nat.le_of_ble_eq_true rfl) rfl ?_
      refine aw_goto (tgt := 199) dX8_findRows_255 (by decide) ?_
      cases hF
      exact aw_sub [1, 2, 3, 4, 0] rfl (hc ((v4 + 1), I42) rfl)
def cX8_findRows_140 (N : Nat) (R : qR) (b0 : Nat) (v1 : Int32) (v2 : Int32) (I : qI) : Option ((Int32 × qI) ⊕ (qI)) :=
  if v2 = v1 then
    (some (.inr I))
  else
    ((qloop (fun s => cX8_findRows_147 N R I b0 v1 v2 s) N (0 : Int32)).bind fun o32 =>
    (R.1 b0 11).bind fun r33 =>
    (qwr I R r33 (I b0 9) o32).bind fun I34 =>
    (qloop (fun s => cX8_findRows_199 N R b0 v1 v2 o32 s.1 s.2) N ((0 : Int32), I34)).bind fun o43 =>
    qlet (qup o43 b0 9 ((o43 b0 9) + (1 : Int32))) fun I44 =>
    (fX8_behind N R I44 b0 v2 o32).bind fun y45 =>
    some (.inl (y45, I44)))
set_option maxHeartbeats 4000000 in
set_option maxRecDepth 100000 in
theorem tX8_findRows_140 {l : Launch} {G : qG} {N : Nat} {R : qR} {As : List Value} {rv : Option Value} {I1 : qI} {b0 : Nat} {v1 : Int32} (hW : qWT R) (hb0 : qok R b0 8) {o : qI} (hx : AW (Zm l G mX8_findRows 3 As R rv I1 R) 278 [] [] o R) : ∀ n s, qloop (fun s => cX8_findRows_140 N R b0 v1 s.1 s.2) n s = some o → (match s with | (v2, I) => AW (Zm l G mX8_findRows 3 As R rv I1 R) 140 [(0, .ref (G.1 + b0)), (1, .int v1), (2, .int v2)] [] I R) := by
  apply qloop_ind
  intro s x hF hc he
  obtain ⟨v2, I⟩ := s
  change cX8_findRows_140 N R b0 v1 v2 I = some x at hF
  unfold cX8_findRows_140 at hF
  show AW _ 140 [(0, .ref (G.1 + b0)), (1, .int v1), (2, .int v2)] [] I R
  refine aw_iload_n dX8_findRows_140 2 rfl rfl ?_
  refine aw_iload_n dX8_findRows_141 1 rfl rfl ?_
  refine aw_icmp_eq (tgt := 278) dX8_findRows_142 (by decide) (fun c24 => ?_) (fun c24 => ?_)
  · rw [if_pos c24] at hF
    cases hF
    have hE := he _ rfl
    subst hE
    exact aw_sub [] rfl hx
  · rw [if_neg c24] at hF
    refine aw_iconst (v := (0 : Int32)) dX8_findRows_145 (by decide) ?_
    refine aw_istore_n (lv' := [(3, .int (0 : Int32)), (0, .ref (G.1 + b0)), (1, .int v1), (2, .int v2)]) dX8_findRows_146 rfl (Nat.le_of_ble_eq_true rfl) rfl ?_
    obtain ⟨o32, eo32, hF⟩ := qbind hF
    refine aw_sub [1, 2, 3, 0] rfl (tX8_findRows_147 hW hb0 (o := o32) ?_ N (0 : Int32) eo32)
    show AW _ 186 [(0, .ref (G.1 + b0)), (1, .int v1), (2, .int v2), (3, .int o32)] [] I R
    refine aw_aload_n dX8_findRows_186 0 rfl rfl ?_
    obtain ⟨r33, er33, hF⟩ := qbind hF
    have kr33 : qok R r33 9 := hW.get hb0 er33 rfl
    refine aw_getr fl_X8_32 (by decide) fg_X8_11 hb0 er33 rfl dX8_findRows_187 ?_
    refine aw_aload_n dX8_findRows_190 0 rfl rfl ?_
    refine aw_geti fl_X8_117 (by decide) fg_X8_9 hb0 rfl dX8_findRows_191 ?_
    refine aw_iload_n dX8_findRows_194 3 rfl rfl ?_
    obtain ⟨I34, eI34, hF⟩ := qbind hF
    refine aw_iastq kr33 eI34 dX8_findRows_195 ?_
    refine aw_iconst (v := (0 : Int32)) dX8_findRows_196 (by decide) ?_
    refine aw_istore (lv' := [(4, .int (0 : Int32)), (0, .ref (G.1 + b0)), (1, .int v1), (2, .int v2), (3, .int o32)]) dX8_findRows_197 (Nat.le_of_ble_eq_true rfl) rfl ?_
    obtain ⟨o43, eo43, hF⟩ := qbind hF
    refine aw_sub [1, 2, 3, 4, 0] rfl (tX8_findRows_199 hW hb0 (o := o43) ?_ N ((0 : Int32), I34) eo43)
    show AW _ 258 [(0, .ref (G.1 + b0)), (1, .int v1), (2, .int v2), (3, .int o32)] [] o43 R
    refine aw_aload_n dX8_findRows_258 0 rfl rfl ?_
    refine aw_aload_n dX8_findRows_259 0 rfl rfl ?_
    refine aw_geti fl_X8_117 (by decide) fg_X8_9 hb0 rfl dX8_findRows_260 ?_
    refine aw_iconst (v := (1 : Int32)) dX8_findRows_263 (by decide) ?_
    refine aw_iadd dX8_findRows_264 ?_
    obtain ⟨I44, eI44, hF⟩ := qletE hF
    refine aw_putiq fl_X8_117 (by decide) fs_X8_9 fn_X8_9 ft_X8_9 hb0 eI44 rfl dX8_findRows_265 ?_
    refine aw_aload_n dX8_findRows_268 0 rfl rfl ?_
    refine aw_iload_n dX8_findRows_269 2 rfl rfl ?_
    refine aw_iload_n dX8_findRows_270 3 rfl rfl ?_
    obtain ⟨y45, ey45, hF⟩ := qbind hF
    refine aw_callVi (As := [.int v2, .int o32]) (sX8_behind hW hb0 ey45) cl_X8_133 rfl (qroomL (by decide) (by decide)) rfl hb0 (Nat.le_of_ble_eq_true rfl) dX8_findRows_271 rfl ?_
    refine aw_istore_n (lv' := [(2, .int y45), (0, .ref (G.1 + b0)), (1, .int v1), (3, .int o32)]) dX8_findRows_274 rfl (Nat.le_of_ble_eq_true rfl) rfl ?_
    refine aw_goto (tgt := 140) dX8_findRows_275 (by decide) ?_
    cases hF
    exact aw_sub [1, 2, 0] rfl (hc (y45, I44) rfl)
def fX8_findRows (N : Nat) (R : qR) (I : qI) (a0 : Nat) : Option (qI) :=
  (qloop (fun s => cX8_findRows_4 N R I a0 s.1 s.2) N ((0 : Int32), (0 : Int32))).bind fun o4 =>
  (qloop (fun s => cX8_findRows_33 N R a0 o4 s.1 s.2) N (o4, I)).bind fun o22 =>
  qlet (qup o22 a0 9 (0 : Int32)) fun I23 =>
  (qloop (fun s => cX8_findRows_140 N R a0 o4 s.1 s.2) N ((0 : Int32), I23)).bind fun o46 =>
  some o46
set_option maxHeartbeats 4000000 in
set_option maxRecDepth 100000 in
theorem sX8_findRows {l : Launch} {G : qG} {N : Nat} {R : qR} {I : qI} {a0 : Nat} {rI : qI} (hW : qWT R) (ha0 : qok R a0 8) (hF : fX8_findRows N R I a0 = some rI) : qMt l G mX8_findRows 3 [.ref (G.1 + a0)] I R (none) rI R := by
  unfold fX8_findRows at hF
  refine qMt_of (by decide) (Nat.le_of_ble_eq_true rfl) ⟨Nat.le_refl _, Nat.le_refl _⟩ ?_
  show AW _ 0 [(0, .ref (G.1 + a0))] [] I R
  refine aw_iconst (v := (0 : Int32)) dX8_findRows_0 (by decide) ?_
  refine aw_istore_n (lv' := [(1, .int (0 : Int32)), (0, .ref (G.1 + a0))]) dX8_findRows_1 rfl (Nat.le_of_ble_eq_true rfl) rfl ?_
  refine aw_iconst (v := (0 : Int32)) dX8_findRows_2 (by decide) ?_
  refine aw_istore_n (lv' := [(2, .int (0 : Int32)), (1, .int (0 : Int32)), (0, .ref (G.1 + a0))]) dX8_findRows_3 rfl (Nat.le_of_ble_eq_true rfl) rfl ?_
  obtain ⟨o4, eo4, hF⟩ := qbind hF
  refine aw_sub [2, 1, 0] rfl (tX8_findRows_4 hW ha0 (o := o4) ?_ N ((0 : Int32), (0 : Int32)) eo4)
  show AW _ 31 [(0, .ref (G.1 + a0)), (1, .int o4)] [] I R
  refine aw_iload_n dX8_findRows_31 1 rfl rfl ?_
  refine aw_istore_n (lv' := [(2, .int o4), (0, .ref (G.1 + a0)), (1, .int o4)]) dX8_findRows_32 rfl (Nat.le_of_ble_eq_true rfl) rfl ?_
  obtain ⟨o22, eo22, hF⟩ := qbind hF
  refine aw_sub [1, 2, 0] rfl (tX8_findRows_33 hW ha0 (o := o22) ?_ N (o4, I) eo22)
  show AW _ 133 [(0, .ref (G.1 + a0)), (1, .int o4)] [] o22 R
  refine aw_aload_n dX8_findRows_133 0 rfl rfl ?_
  refine aw_iconst (v := (0 : Int32)) dX8_findRows_134 (by decide) ?_
  obtain ⟨I23, eI23, hF⟩ := qletE hF
  refine aw_putiq fl_X8_117 (by decide) fs_X8_9 fn_X8_9 ft_X8_9 ha0 eI23 rfl dX8_findRows_135 ?_
  refine aw_iconst (v := (0 : Int32)) dX8_findRows_138 (by decide) ?_
  refine aw_istore_n (lv' := [(2, .int (0 : Int32)), (0, .ref (G.1 + a0)), (1, .int o4)]) dX8_findRows_139 rfl (Nat.le_of_ble_eq_true rfl) rfl ?_
  obtain ⟨o46, eo46, hF⟩ := qbind hF
  refine aw_sub [1, 2, 0] rfl (tX8_findRows_140 hW ha0 (o := o46) ?_ N ((0 : Int32), I23) eo46)
  show AW _ 278 [] [] o46 R
  cases hF
  exact aw_vret rfl dX8_findRows_278 rfl rfl rfl
def fX8_leaves (R : qR) (I : qI) (a0 : Nat) (p1 : Int32) (p2 : Int32) : Option (Int32) :=
  (R.1 a0 13).bind fun r1 =>
  (qrd I R r1 p1).bind fun x2 =>
  if p2 = (x2 - (1 : Int32)) then
    ((R.1 a0 15).bind fun r6 =>
    (qrd I R r6 (((7 : Int32) * p1) + p2)).bind fun x7 =>
    some x7)
  else
    ((R.1 a0 16).bind fun r4 =>
    (qrd I R r4 (((7 : Int32) * p1) + p2)).bind fun x5 =>
    some x5)
set_option maxHeartbeats 4000000 in
set_option maxRecDepth 100000 in
theorem sX8_leaves {l : Launch} {G : qG} {R : qR} {I : qI} {a0 : Nat} {p1 : Int32} {p2 : Int32} {rv : Int32} (hW : qWT R) (ha0 : qok R a0 8) (hF : fX8_leaves R I a0 p1 p2 = some rv) : qMt l G mX8_leaves 1 [.ref (G.1 + a0), .int p1, .int p2] I R (some (.int rv)) I R := by
  unfold fX8_leaves at hF
  refine qMt_of (by decide) (Nat.le_of_ble_eq_true rfl) ⟨Nat.le_refl _, Nat.le_refl _⟩ ?_
  show AW _ 0 [(0, .ref (G.1 + a0)), (1, .int p1), (2, .int p2)] [] I R
  refine aw_iload_n dX8_leaves_0 2 rfl rfl ?_
  refine aw_aload_n dX8_leaves_1 0 rfl rfl ?_
  obtain ⟨r1, er1, hF⟩ := qbind hF
  have kr1 : qok R r1 9 := hW.get ha0 er1 rfl
  refine aw_getr fl_X8_38 (by decide) fg_X8_13 ha0 er1 rfl dX8_leaves_2 ?_
  refine aw_iload_n dX8_leaves_5 1 rfl rfl ?_
  obtain ⟨x2, ex2, hF⟩ := qbind hF
  refine aw_ialdq kr1 ex2 dX8_leaves_6 ?_
  refine aw_iconst (v := (1 : Int32)) dX8_leaves_7 (by decide) ?_
  refine aw_isub dX8_leaves_8 ?_
  refine aw_icmp_ne (tgt := 26) dX8_leaves_9 (by decide) (fun c3 => ?_) (fun c3 => ?_)
  · rw [if_neg c3] at hF
    refine aw_aload_n dX8_leaves_26 0 rfl rfl ?_
    obtain ⟨r4, er4, hF⟩ := qbind hF
    have kr4 : qok R r4 9 := hW.get ha0 er4 rfl
    refine aw_getr fl_X8_47 (by decide) fg_X8_16 ha0 er4 rfl dX8_leaves_27 ?_
    refine aw_bipush (v := (7 : Int32)) dX8_leaves_30 (by decide) ?_
    refine aw_iload_n dX8_leaves_32 1 rfl rfl ?_
    refine aw_imul dX8_leaves_33 ?_
    refine aw_iload_n dX8_leaves_34 2 rfl rfl ?_
    refine aw_iadd dX8_leaves_35 ?_
    obtain ⟨x5, ex5, hF⟩ := qbind hF
    refine aw_ialdq kr4 ex5 dX8_leaves_36 ?_
    cases hF
    exact aw_iret rfl dX8_leaves_37 rfl rfl rfl
  · rw [if_pos c3] at hF
    refine aw_aload_n dX8_leaves_12 0 rfl rfl ?_
    obtain ⟨r6, er6, hF⟩ := qbind hF
    have kr6 : qok R r6 9 := hW.get ha0 er6 rfl
    refine aw_getr fl_X8_44 (by decide) fg_X8_15 ha0 er6 rfl dX8_leaves_13 ?_
    refine aw_bipush (v := (7 : Int32)) dX8_leaves_16 (by decide) ?_
    refine aw_iload_n dX8_leaves_18 1 rfl rfl ?_
    refine aw_imul dX8_leaves_19 ?_
    refine aw_iload_n dX8_leaves_20 2 rfl rfl ?_
    refine aw_iadd dX8_leaves_21 ?_
    obtain ⟨x7, ex7, hF⟩ := qbind hF
    refine aw_ialdq kr6 ex7 dX8_leaves_22 ?_
    refine aw_goto (tgt := 37) dX8_leaves_23 (by decide) ?_
    cases hF
    exact aw_iret rfl dX8_leaves_37 rfl rfl rfl
