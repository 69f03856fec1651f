def cX8_ones_4 (N : Nat) (R : qR) (I : qI)  (v2 : Int32) (v3 : Int32) : Option ((Int32 × Int32) ⊕ (Int32)) :=
  if v3 = 0 then
    (some (.inr v2))
  else
    (some (.inl ((v2 + (1 : Int32)), (v3 &&& (v3 - (1 : Int32))))))
set_option maxHeartbeats 4000000 in
set_option maxRecDepth 100000 in
theorem tX8_ones_4 {l : Launch} {G : qG} {N : Nat} {R : qR} {I : qI} {As : List Value} {rv : Option Value}  (hW : qWT R)  {o : Int32} (hx : AW (Zm l G mX8_ones 1 As R rv I R) 21 [(2, .int o)] [] I R) : ∀ n s, qloop (fun s => cX8_ones_4 N R I s.1 s.2) n s = some o → (match s with | (v2, v3) => AW (Zm l G mX8_ones 1 As R rv I R) 4 [(2, .int v2), (3, .int v3)] [] I R) := by
  apply qloop_ind
  intro s x hF hc he
  obtain ⟨v2, v3⟩ := s
  change cX8_ones_4 N R I v2 v3 = some x at hF
  unfold cX8_ones_4 at hF
  show AW _ 4 [(2, .int v2), (3, .int v3)] [] I R
  refine aw_iload_n dX8_ones_4 1 rfl rfl ?_
  refine aw_if_eq (tgt := 21) dX8_ones_5 (by decide) (fun c1 => ?_) (fun c1 => ?_)
  · rw [if_pos c1] at hF
    cases hF
    have hE := he _ rfl
    subst hE
    exact aw_sub [0] rfl hx
  · rw [if_neg c1] at hF
    refine aw_iload_n dX8_ones_8 0 rfl rfl ?_
    refine aw_iconst (v := (1 : Int32)) dX8_ones_9 (by decide) ?_
    refine aw_iadd dX8_ones_10 ?_
    refine aw_istore_n (lv' := [(2, .int (v2 + (1 : Int32))), (3, .int v3)]) dX8_ones_11 rfl (Nat.le_of_ble_eq_true rfl) rfl ?_
    refine aw_iload_n dX8_ones_12 1 rfl rfl ?_
    refine aw_iload_n dX8_ones_13 1 rfl rfl ?_
    refine aw_iconst (v := (1 : Int32)) dX8_ones_14 (by decide) ?_
    refine aw_isub dX8_ones_15 ?_
    refine aw_iand dX8_ones_16 ?_
    refine aw_istore_n (lv' := [(3, .int (v3 &&& (v3 - (1 : Int32)))), (2, .int (v2 + (1 : Int32)))]) dX8_ones_17 rfl (Nat.le_of_ble_eq_true rfl) rfl ?_
    refine aw_goto (tgt := 4) dX8_ones_18 (by decide) ?_
    cases hF
    exact aw_sub [1, 0] rfl (hc ((v2 + (1 : Int32)), (v3 &&& (v3 - (1 : Int32)))) rfl)
def fX8_ones (N : Nat) (R : qR) (I : qI) (a0 : Nat) (p1 : Int32) : Option (Int32) :=
  (qloop (fun s => cX8_ones_4 N R I s.1 s.2) N ((0 : Int32), p1)).bind fun o2 =>
  some o2
set_option maxHeartbeats 4000000 in
set_option maxRecDepth 100000 in
theorem sX8_ones {l : Launch} {G : qG} {N : Nat} {R : qR} {I : qI} {a0 : Nat} {p1 : Int32} {rv : Int32} (hW : qWT R) (ha0 : qok R a0 8) (hF : fX8_ones N R I a0 p1 = some rv) : qMt l G mX8_ones 1 [.ref (G.1 + a0), .int p1] I R (some (.int rv)) I R := by
  unfold fX8_ones at hF
  refine qMt_of (by decide) (Nat.le_of_ble_eq_true rfl) ⟨Nat.le_refl _, Nat.le_refl _⟩ ?_
  show AW _ 0 [(0, .ref (G.1 + a0)), (1, .int p1)] [] I R
  refine aw_iconst (v := (0 : Int32)) dX8_ones_0 (by decide) ?_
  refine aw_istore_n (lv' := [(2, .int (0 : Int32)), (0, .ref (G.1 + a0)), (1, .int p1)]) dX8_ones_1 rfl (Nat.le_of_ble_eq_true rfl) rfl ?_
  refine aw_iload_n dX8_ones_2 2 rfl rfl ?_
  refine aw_istore_n (lv' := [(3, .int p1), (2, .int (0 : Int32)), (0, .ref (G.1 + a0)), (1, .int p1)]) dX8_ones_3 rfl (Nat.le_of_ble_eq_true rfl) rfl ?_
  obtain ⟨o2, eo2, hF⟩ := qbind hF
  refine aw_sub [1, 0] rfl (tX8_ones_4 hW  (o := o2) ?_ N ((0 : Int32), p1) eo2)
  show AW _ 21 [(2, .int o2)] [] I R
  refine aw_iload_n dX8_ones_21 0 rfl rfl ?_
  cases hF
  exact aw_iret rfl dX8_ones_22 rfl rfl rfl
def cX8_signs_51 (N : Nat) (R : qR) (I : qI) (b0 : Nat) (v1 : Int32) (v2 : Int32) (v3 : Int32) (v4 : Int32) (v5 : Int32) (v6 : Int32) (v7 : Int32) (v8 : Int32) : Option ((Int32 × Int32 × Int32) ⊕ (Int32 × Int32)) :=
  if (13 : Int32) ≤ v8 then
    (some (.inr (v6, v7)))
  else
    (if v7 = 0 then
      (some (.inr (v6, v7)))
    else
      (if ((v5 >>> (v8 &&& 31)) &&& (1 : Int32)) = 0 then
        (some (.inl (v6, v7, (v8 + 1))))
      else
        ((R.1 b0 8).bind fun r10 =>
        (qrd I R r10 v8).bind fun x11 =>
        if x11 = 0 then
          (some (.inl ((v6 ||| x11), (0 : Int32), (v8 + 1))))
        else
          (some (.inl ((v6 ||| x11), (1 : Int32), (v8 + 1)))))))
set_option maxHeartbeats 4000000 in
set_option maxRecDepth 100000 in
theorem tX8_signs_51 {l : Launch} {G : qG} {N : Nat} {R : qR} {I : qI} {As : List Value} {rv : Option Value} {I1 : qI} {b0 : Nat} {v1 : Int32} {v2 : Int32} {v3 : Int32} {v4 : Int32} {v5 : Int32} (hW : qWT R) (hb0 : qok R b0 8) {o : Int32 × Int32} (hx : match o with | (z0, z1) => AW (Zm l G mX8_signs 2 As R rv I1 R) 111 [(0, .ref (G.1 + b0)), (1, .int v1), (2, .int v2), (3, .int v3), (4, .int v4), (5, .int v5), (6, .int z0), (7, .int z1)] [] I R) : ∀ n s, qloop (fun s => cX8_signs_51 N R I b0 v1 v2 v3 v4 v5 s.1 s.2.1 s.2.2) n s = some o → (match s with | (v6, v7, v8) => AW (Zm l G mX8_signs 2 As R rv I1 R) 51 [(0, .ref (G.1 + b0)), (1, .int v1), (2, .int v2), (3, .int v3), (4, .int v4), (5, .int v5), (6, .int v6), (7, .int v7), (8, .int v8)] [] I R) := by
  apply qloop_ind
  intro s x hF hc he
  obtain ⟨v6, v7, v8⟩ := s
  change cX8_signs_51 N R I b0 v1 v2 v3 v4 v5 v6 v7 v8 = some x at hF
  unfold cX8_signs_51 at hF
  show AW _ 51 [(0, .ref (G.1 + b0)), (1, .int v1), (2, .int v2), (3, .int v3), (4, .int v4), (5, .int v5), (6, .int v6), (7, .int v7), (8, .int v8)] [] I R
  refine aw_iload dX8_signs_51 8 rfl ?_
  refine aw_bipush (v := (13 : Int32)) dX8_signs_53 (by decide) ?_
  refine aw_icmp_ge (tgt := 111) dX8_signs_55 (by decide) (fun c7 => ?_) (fun c7 => ?_)
  · rw [if_pos c7] at hF
    cases hF
    have hE := he _ rfl
    subst hE
    exact aw_sub [0, 1, 2, 3, 4, 5, 6, 7] rfl hx
  · rw [if_neg c7] at hF
    refine aw_iload dX8_signs_58 7 rfl ?_
    refine aw_if_eq (tgt := 111) dX8_signs_60 (by decide) (fun c8 => ?_) (fun c8 => ?_)
    · rw [if_pos c8] at hF
      cases hF
      have hE := he _ rfl
      subst hE
      exact aw_sub [0, 1, 2, 3, 4, 5, 6, 7] rfl hx
    · rw [if_neg c8] at hF
      refine aw_iload dX8_signs_63 5 rfl ?_
      refine aw_iload dX8_signs_65 8 rfl ?_
      refine aw_ishr dX8_signs_67 ?_
      refine aw_iconst (v := (1 : Int32)) dX8_signs_68 (by decide) ?_
      refine aw_iand dX8_signs_69 ?_
      refine aw_if_ne (tgt := 76) dX8_signs_70 (by decide) (fun c9 => ?_) (fun c9 => ?_)
      · rw [if_neg c9] at hF
        refine aw_iload dX8_signs_76 6 rfl ?_
        refine aw_aload_n dX8_signs_78 0 rfl rfl ?_
        obtain ⟨r10, er10, hF⟩ := qbind hF
        have kr10 : qok R r10 9 := hW.get hb0 er10 rfl
        refine aw_getr fl_X8_29 (by decide) fg_X8_8 hb0 er10 rfl dX8_signs_79 ?_
        refine aw_iload dX8_signs_82 8 rfl ?_
        obtain ⟨x11, ex11, hF⟩ := qbind hF
        refine aw_ialdq kr10 ex11 dX8_signs_84 ?_
        refine aw_ior dX8_signs_85 ?_
        refine aw_istore (lv' := [(6, .int (v6 ||| x11)), (0, .ref (G.1 + b0)), (1, .int v1), (2, .int v2), (3, .int v3), (4, .int v4), (5, .int v5), (7, .int v7), (8, .int v8)]) dX8_signs_86 (Nat.le_of_ble_eq_true rfl) rfl ?_
        refine aw_aload_n dX8_signs_88 1 rfl rfl ?_
        refine aw_getr fl_X8_29 (by decide) fg_X8_8 hb0 er10 rfl dX8_signs_89 ?_
        refine aw_iload dX8_signs_92 8 rfl ?_
        refine aw_ialdq kr10 ex11 dX8_signs_94 ?_
        refine aw_if_eq (tgt := 102) dX8_signs_95 (by decide) (fun c12 => ?_) (fun c12 => ?_)
        · rw [if_pos c12] at hF
          refine aw_iconst (v := (0 : Int32)) dX8_signs_102 (by decide) ?_
          refine aw_istore (lv' := [(7, .int (0 : Int32)), (6, .int (v6 ||| x11)), (0, .ref (G.1 + b0)), (1, .int v1), (2, .int v2), (3, .int v3), (4, .int v4), (5, .int v5), (8, .int v8)]) dX8_signs_103 (Nat.le_of_ble_eq_true rfl) rfl ?_
          refine aw_iinc (q := 8) (v := (v8 + 1)) (lv' := [(8, .int (v8 + 1)), (7, .int (0 : Int32)), (6, .int (v6 ||| x11)), (0, .ref (G.1 + b0)), (1, .int v1), (2, .int v2), (3, .int v3), (4, .int v4), (5, .int v5)]) dX8_signs_105 rfl rfl (Nat.le_of_ble_eq_true rfl) rfl ?_
          refine aw_goto (tgt := 51) dX8_signs_108 (by decide) ?_
          cases hF
          exact aw_sub [3, 4, 5, 6, 7, 8, 2, 1, 0] rfl (hc ((v6 ||| x11), (0 : Int32), (v8 + 1)) rfl)
        · rw [if_neg c12] at hF
          refine aw_iconst (v := (1 : Int32)) dX8_signs_98 (by decide) ?_
          refine aw_goto (tgt := 103) dX8_signs_99 (by decide) ?_
          refine aw_istore (lv' := [(7, .int (1 : Int32)), (6, .int (v6 ||| x11)), (0, .ref (G.1 + b0)), (1, .int v1), (2, .int v2), (3, .int v3), (4, .int v4), (5, .int v5), (8, .int v8)]) dX8_signs_103 (Nat.le_of_ble_eq_true rfl) rfl ?_
          refine aw_iinc (q := 8) (v := (v8 + 1)) (lv' := [(8, .int (v8 + 1)), (7, .int (1 : Int32)), (6, .int (v6 ||| x11)), (0, .ref (G.1 + b0)), (1, .int v1), (2, .int v2), (3, .int v3), (4, .int v4), (5, .int v5)]) dX8_signs_105 rfl rfl (Nat.le_of_ble_eq_true rfl) rfl ?_
          refine aw_goto (tgt := 51) dX8_signs_108 (by decide) ?_
          cases hF
          exact aw_sub [3, 4, 5, 6, 7, 8, 2, 1, 0] rfl (hc ((v6 ||| x11), (1 : Int32), (v8 + 1)) rfl)
      · rw [if_pos c9] at hF
        refine aw_goto (tgt := 105) dX8_signs_73 (by decide) ?_
        refine aw_iinc (q := 8) (v := (v8 + 1)) (lv' := [(8, .int (v8 + 1)), (0, .ref (G.1 + b0)), (1, .int v1), (2, .int v2), (3, .int v3), (4, .int v4), (5, .int v5), (6, .int v6), (7, .int v7)]) dX8_signs_105 rfl rfl (Nat.le_of_ble_eq_true rfl) rfl ?_
        refine aw_goto (tgt := 51) dX8_signs_108 (by decide) ?_
        cases hF
        exact aw_sub [1, 2, 3, 4, 5, 6, 7, 8, 0] rfl (hc (v6, v7, (v8 + 1)) rfl)
def cX8_signs_34 (N : Nat) (R : qR) (I : qI) (b0 : Nat) (v1 : Int32) (v2 : Int32) (v3 : Int32) (v4 : Int32) (v5 : Int32) : Option ((Int32 × Int32 × Int32) ⊕ (Int32)) :=
  if (8192 : Int32) ≤ v5 then
    (some (.inr v3))
  else
    ((qloop (fun s => cX8_signs_51 N R I b0 v1 v2 v3 v4 v5 s.1 s.2.1 s.2.2) N ((0 : Int32), (1 : Int32), (0 : Int32))).bind fun o13 =>
    if o13.2 = 0 then
      (some (.inl (v3, v4, (v5 + 1))))
    else
      ((R.1 b0 3).bind fun r15 =>
      (qrd I R r15 v1).bind fun x16 =>
      if o13.1 = x16 then
        (if v4 = 0 then
          (some (.inl (v5, (1 : Int32), (v5 + 1))))
        else
          ((fX8_ones N R I b0 v5).bind fun y19 =>
          (fX8_ones N R I b0 v3).bind fun y20 =>
          if y19 < y20 then
            (some (.inl (v5, (1 : Int32), (v5 + 1))))
          else
            (some (.inl (v3, v4, (v5 + 1))))))
      else
        (some (.inl (v3, v4, (v5 + 1))))))
set_option maxHeartbeats 4000000 in
set_option maxRecDepth 100000 in
theorem tX8_signs_34 {l : Launch} {G : qG} {N : Nat} {R : qR} {I : qI} {As : List Value} {rv : Option Value} {I1 : qI} {b0 : Nat} {v1 : Int32} {v2 : Int32} (hW : qWT R) (hb0 : qok R b0 8) {o : Int32} (hx : AW (Zm l G mX8_signs 2 As R rv I1 R) 161 [(0, .ref (G.1 + b0)), (2, .int v2), (3, .int o)] [] I R) : ∀ n s, qloop (fun s => cX8_signs_34 N R I b0 v1 v2 s.1 s.2.1 s.2.2) n s = some o → (match s with | (v3, v4, v5) => AW (Zm l G mX8_signs 2 As R rv I1 R) 34 [(0, .ref (G.1 + b0)), (1, .int v1), (2, .int v2), (3, .int v3), (4, .int v4), (5, .int v5)] [] I R) := by
  apply qloop_ind
  intro s x hF hc he
  obtain ⟨v3, v4, v5⟩ := s
  change cX8_signs_34 N R I b0 v1 v2 v3 v4 v5 = some x at hF
  unfold cX8_signs_34 at hF
  show AW _ 34 [(0, .ref (G.1 + b0)), (1, .int v1), (2, .int v2), (3, .int v3), (4, .int v4), (5, .int v5)] [] I R
  refine aw_iload dX8_signs_34 5 rfl ?_
  refine aw_sipush (v := (8192 : Int32)) dX8_signs_36 (by decide) ?_
  refine aw_icmp_ge (tgt := 161) dX8_signs_39 (by decide) (fun c6 => ?_) (fun c6 => ?_)
  · rw [if_pos c6] at hF
    cases hF
    have hE := he _ rfl
    subst hE
    exact aw_sub [0, 2, 3] rfl hx
  · rw [if_neg c6] at hF
    refine aw_iconst (v := (0 : Int32)) dX8_signs_42 (by decide) ?_
    refine aw_istore (lv' := [(6, .int (0 : Int32)), (0, .ref (G.1 + b0)), (1, .int v1), (2, .int v2), (3, .int v3), (4, .int v4), (5, .int v5)]) dX8_signs_43 (Nat.le_of_ble_eq_true rfl) rfl ?_
    refine aw_iconst (v := (1 : Int32)) dX8_signs_45 (by decide) ?_
    refine aw_istore (lv' := [(7, .int (1 : Int32)), (6, .int (0 : Int32)), (0, .ref (G.1 + b0)), (1, .int v1), (2, .int v2), (3, .int v3), (4, .int v4), (5, .int v5)]) dX8_signs_46 (Nat.le_of_ble_eq_true rfl) rfl ?_
    refine aw_iconst (v := (0 : Int32)) dX8_signs_48 (by decide) ?_
    refine aw_istore (lv' := [(8, .int (0 : Int32)), (7, .int (1 : Int32)), (6, .int (0 : Int32)), (0, .ref (G.1 + b0)), (1, .int v1), (2, .int v2), (3, .int v3), (4, .int v4), (5, .int v5)]) dX8_signs_49 (Nat.le_of_ble_eq_true rfl) rfl ?_
    obtain ⟨o13, eo13, hF⟩ := qbind hF
    refine aw_sub [3, 4, 5, 6, 7, 8, 2, 1, 0] rfl (tX8_signs_51 hW hb0 (o := o13) ?_ N ((0 : Int32), (1 : Int32), (0 : Int32)) eo13)
    show AW _ 111 [(0, .ref (G.1 + b0)), (1, .int v1), (2, .int v2), (3, .int v3), (4, .int v4), (5, .int v5), (6, .int o13.1), (7, .int o13.2)] [] I R
    refine aw_iload dX8_signs_111 7 rfl ?_
    refine aw_if_eq (tgt := 155) dX8_signs_113 (by decide) (fun c14 => ?_) (fun c14 => ?_)
    · rw [if_pos c14] at hF
      refine aw_iinc (q := 5) (v := (v5 + 1)) (lv' := [(5, .int (v5 + 1)), (0, .ref (G.1 + b0)), (1, .int v1), (2, .int v2), (3, .int v3), (4, .int v4), (6, .int o13.1), (7, .int o13.2)]) dX8_signs_155 rfl rfl (Nat.le_of_ble_eq_true rfl) rfl ?_
      refine aw_goto (tgt := 34) dX8_signs_158 (by decide) ?_
      cases hF
      exact aw_sub [1, 2, 3, 4, 5, 0] rfl (hc (v3, v4, (v5 + 1)) rfl)
    · rw [if_neg c14] at hF
      refine aw_iload dX8_signs_116 6 rfl ?_
      refine aw_aload_n dX8_signs_118 0 rfl rfl ?_
      obtain ⟨r15, er15, hF⟩ := qbind hF
      have kr15 : qok R r15 9 := hW.get hb0 er15 rfl
      refine aw_getr fl_X8_13 (by decide) fg_X8_3 hb0 er15 rfl dX8_signs_119 ?_
      refine aw_iload_n dX8_signs_122 1 rfl rfl ?_
      obtain ⟨x16, ex16, hF⟩ := qbind hF
      refine aw_ialdq kr15 ex16 dX8_signs_123 ?_
      refine aw_icmp_ne (tgt := 155) dX8_signs_124 (by decide) (fun c17 => ?_) (fun c17 => ?_)
      · rw [if_neg c17] at hF
        refine aw_iinc (q := 5) (v := (v5 + 1)) (lv' := [(5, .int (v5 + 1)), (0, .ref (G.1 + b0)), (1, .int v1), (2, .int v2), (3, .int v3), (4, .int v4), (6, .int o13.1), (7, .int o13.2)]) dX8_signs_155 rfl rfl (Nat.le_of_ble_eq_true rfl) rfl ?_
        refine aw_goto (tgt := 34) dX8_signs_158 (by decide) ?_
        cases hF
        exact aw_sub [1, 2, 3, 4, 5, 0] rfl (hc (v3, v4, (v5 + 1)) rfl)
      · rw [if_pos c17] at hF
        refine aw_iload dX8_signs_127 4 rfl ?_
        refine aw_if_eq (tgt := 149) dX8_signs_129 (by decide) (fun c18 => ?_) (fun c18 => ?_)
        · rw [if_pos c18] at hF
          refine aw_iconst (v := (1 : Int32)) dX8_signs_149 (by decide) ?_
          refine aw_istore (lv' := [(4, .int (1 : Int32)), (0, .ref (G.1 + b0)), (1, .int v1), (2, .int v2), (3, .int v3), (5, .int v5), (6, .int o13.1), (7, .int o13.2)]) dX8_signs_150 (Nat.le_of_ble_eq_true rfl) rfl ?_
          refine aw_iload dX8_signs_152 5 rfl ?_
          refine aw_istore_n (lv' := [(3, .int v5), (4, .int (1 : Int32)), (0, .ref (G.1 + b0)), (1, .int v1), (2, .int v2), (5, .int v5), (6, .int o13.1), (7, .int o13.2)]) dX8_signs_154 rfl (Nat.le_of_ble_eq_true rfl) rfl ?_
          refine aw_iinc (q := 5) (v := (v5 + 1)) (lv' := [(5, .int (v5 + 1)), (3, .int v5), (4, .int (1 : Int32)), (0, .ref (G.1 + b0)), (1, .int v1), (2, .int v2), (6, .int o13.1), (7, .int o13.2)]) dX8_signs_155 rfl rfl (Nat.le_of_ble_eq_true rfl) rfl ?_
          refine aw_goto (tgt := 34) dX8_signs_158 (by decide) ?_
          cases hF
          exact aw_sub [3, 4, 5, 1, 2, 0] rfl (hc (v5, (1 : Int32), (v5 + 1)) rfl)
        · rw [if_neg c18] at hF
          refine aw_aload_n dX8_signs_132 0 rfl rfl ?_
          refine aw_iload dX8_signs_133 5 rfl ?_
          obtain ⟨y19, ey19, hF⟩ := qbind hF
          refine aw_callVi (As := [.int v5]) (sX8_ones hW hb0 ey19) cl_X8_123 rfl (qroomL (by decide) (by decide)) rfl hb0 (Nat.le_of_ble_eq_true rfl) dX8_signs_135 rfl ?_
          refine aw_aload_n dX8_signs_138 0 rfl rfl ?_
          refine aw_iload_n dX8_signs_139 3 rfl rfl ?_
          obtain ⟨y20, ey20, hF⟩ := qbind hF
          refine aw_callVi (As := [.int v3]) (sX8_ones hW hb0 ey20) cl_X8_123 rfl (qroomL (by decide) (by decide)) rfl hb0 (Nat.le_of_ble_eq_true rfl) dX8_signs_140 rfl ?_
          refine aw_icmp_lt (tgt := 149) dX8_signs_143 (by decide) (fun c21 => ?_) (fun c21 => ?_)
          · rw [if_pos c21] at hF
            refine aw_iconst (v := (1 : Int32)) dX8_signs_149 (by decide) ?_
            refine aw_istore (lv' := [(4, .int (1 : Int32)), (0, .ref (G.1 + b0)), (1, .int v1), (2, .int v2), (3, .int v3), (5, .int v5), (6, .int o13.1), (7, .int o13.2)]) dX8_signs_150 (Nat.le_of_ble_eq_true rfl) rfl ?_
            refine aw_iload dX8_signs_152 5 rfl ?_
            refine aw_istore_n (lv' := [(3, .int v5), (4, .int (1 : Int32)), (0, .ref (G.1 + b0)), (1, .int v1), (2, .int v2), (5, .int v5), (6, .int o13.1), (7, .int o13.2)]) dX8_signs_154 rfl (Nat.le_of_ble_eq_true rfl) rfl ?_
            refine aw_iinc (q := 5) (v := (v5 + 1)) (lv' := [(5, .int (v5 + 1)), (3, .int v5), (4, .int (1 : Int32)), (0, .ref (G.1 + b0)), (1, .int v1), (2, .int v2), (6, .int o13.1), (7, .int o13.2)]) dX8_signs_155 rfl rfl (Nat.le_of_ble_eq_true rfl) rfl ?_
            refine aw_goto (tgt := 34) dX8_signs_158 (by decide) ?_
            cases hF
            exact aw_sub [3, 4, 5, 1, 2, 0] rfl (hc (v5, (1 : Int32), (v5 + 1)) rfl)
          · rw [if_neg c21] at hF
            refine aw_goto (tgt := 155) dX8_signs_146 (by decide) ?_
            refine aw_iinc (q := 5) (v := (v5 + 1)) (lv' := [(5, .int (v5 + 1)), (0, .ref (G.1 + b0)), (1, .int v1), (2, .int v2), (3, .int v3), (4, .int v4), (6, .int o13.1), (7, .int o13.2)]) dX8_signs_155 rfl rfl (Nat.le_of_ble_eq_true rfl) rfl ?_
            refine aw_goto (tgt := 34) dX8_signs_158 (by decide) ?_
            cases hF
            exact aw_sub [1, 2, 3, 4, 5, 0] rfl (hc (v3, v4, (v5 + 1)) rfl)
def fX8_signs (N : Nat) (R : qR) (I : qI) (a0 : Nat) (p1 : Int32) (p2 : Int32) : Option (Int32 × qI) :=
  qlet (qup I a0 0 (0 : Int32)) fun I1 =>
  (fX8_isTrain R I1 a0 p1).bind fun y2 =>
  if y2 = 0 then
    (some ((-1 : Int32), I1))
  else
    (if p2 < 0 then
      (some ((-1 : Int32), I1))
    else
      (if p2 ≤ (1 : Int32) then
        ((qloop (fun s => cX8_signs_34 N R I1 a0 p1 p2 s.1 s.2.1 s.2.2) N ((8191 : Int32), (0 : Int32), (1 : Int32))).bind fun o22 =>
        if p2 = 0 then
          ((fX8_ones N R I1 a0 o22).bind fun y24 =>
          some (y24, I1))
        else
          (some (o22, I1)))
      else
        (some ((-1 : Int32), I1))))
set_option maxHeartbeats 4000000 in
set_option maxRecDepth 100000 in
theorem sX8_signs {l : Launch} {G : qG} {N : Nat} {R : qR} {I : qI} {a0 : Nat} {p1 : Int32} {p2 : Int32} {rv : Int32} {rI : qI} (hW : qWT R) (ha0 : qok R a0 8) (hF : fX8_signs N R I a0 p1 p2 = some (rv, rI)) : qMt l G mX8_signs 2 [.ref (G.1 + a0), .int p1, .int p2] I R (some (.int rv)) rI R := by
  unfold fX8_signs at hF
  refine qMt_of (by decide) (Nat.le_of_ble_eq_true rfl) ⟨Nat.le_refl _, Nat.le_refl _⟩ ?_
  show AW _ 0 [(0, .ref (G.1 + a0)), (1, .int p1), (2, .int p2)] [] I R
  refine aw_aload_n dX8_signs_0 0 rfl rfl ?_
  refine aw_iconst (v := (0 : Int32)) dX8_signs_1 (by decide) ?_
  obtain ⟨I1, eI1, hF⟩ := qletE hF
  refine aw_putiq fl_X8_94 (by decide) fs_X8_0 fn_X8_0 ft_X8_0 ha0 eI1 rfl dX8_signs_2 ?_
  refine aw_aload_n dX8_signs_5 0 rfl rfl ?_
  refine aw_iload_n dX8_signs_6 1 rfl rfl ?_
  obtain ⟨y2, ey2, hF⟩ := qbind hF
  refine aw_callVi (As := [.int p1]) (sX8_isTrain hW ha0 ey2) cl_X8_104 rfl (qroomL (by decide) (by decide)) rfl ha0 (Nat.le_of_ble_eq_true rfl) dX8_signs_7 rfl ?_
  refine aw_if_eq (tgt := 22) dX8_signs_10 (by decide) (fun c3 => ?_) (fun c3 => ?_)
  · rw [if_pos c3] at hF
    refine aw_iconst (v := (-1 : Int32)) dX8_signs_22 (by decide) ?_
    cases hF
    exact aw_iret rfl dX8_signs_23 rfl rfl rfl
  · rw [if_neg c3] at hF
    refine aw_iload_n dX8_signs_13 2 rfl rfl ?_
    refine aw_if_lt (tgt := 22) dX8_signs_14 (by decide) (fun c4 => ?_) (fun c4 => ?_)
    · rw [if_pos c4] at hF
      refine aw_iconst (v := (-1 : Int32)) dX8_signs_22 (by decide) ?_
      cases hF
      exact aw_iret rfl dX8_signs_23 rfl rfl rfl
    · rw [if_neg c4] at hF
      refine aw_iload_n dX8_signs_17 2 rfl rfl ?_
      refine aw_iconst (v := (1 : Int32)) dX8_signs_18 (by decide) ?_
      refine aw_icmp_le (tgt := 24) dX8_signs_19 (by decide) (fun c5 => ?_) (fun c5 => ?_)
      · rw [if_pos c5] at hF
        refine aw_sipush (v := (8191 : Int32)) dX8_signs_24 (by decide) ?_
        refine aw_istore_n (lv' := [(3, .int (8191 : Int32)), (0, .ref (G.1 + a0)), (1, .int p1), (2, .int p2)]) dX8_signs_27 rfl (Nat.le_of_ble_eq_true rfl) rfl ?_
        refine aw_iconst (v := (0 : Int32)) dX8_signs_28 (by decide) ?_
        refine aw_istore (lv' := [(4, .int (0 : Int32)), (3, .int (8191 : Int32)), (0, .ref (G.1 + a0)), (1, .int p1), (2, .int p2)]) dX8_signs_29 (Nat.le_of_ble_eq_true rfl) rfl ?_
        refine aw_iconst (v := (1 : Int32)) dX8_signs_31 (by decide) ?_
        refine aw_istore (lv' := [(5, .int (1 : Int32)), (4, .int (0 : Int32)), (3, .int (8191 : Int32)), (0, .ref (G.1 + a0)), (1, .int p1), (2, .int p2)]) dX8_signs_32 (Nat.le_of_ble_eq_true rfl) rfl ?_
        obtain ⟨o22, eo22, hF⟩ := qbind hF
        refine aw_sub [3, 4, 5, 2, 1, 0] rfl (tX8_signs_34 hW ha0 (o := o22) ?_ N ((8191 : Int32), (0 : Int32), (1 : Int32)) eo22)
        show AW _ 161 [(0, .ref (G.1 + a0)), (2, .int p2), (3, .int o22)] [] I1 R
        refine aw_iload_n dX8_signs_161 1 rfl rfl ?_
        refine aw_if_ne (tgt := 173) dX8_signs_162 (by decide) (fun c23 => ?_) (fun c23 => ?_)
        · rw [if_neg c23] at hF
          refine aw_iload_n dX8_signs_173 2 rfl rfl ?_
          cases hF
          exact aw_iret rfl dX8_signs_174 rfl rfl rfl
        · rw [if_pos c23] at hF
          refine aw_aload_n dX8_signs_165 0 rfl rfl ?_
          refine aw_iload_n dX8_signs_166 2 rfl rfl ?_
          obtain ⟨y24, ey24, hF⟩ := qbind hF
          refine aw_callVi (As := [.int o22]) (sX8_ones hW ha0 ey24) cl_X8_123 rfl (qroomL (by decide) (by decide)) rfl ha0 (Nat.le_of_ble_eq_true rfl) dX8_signs_167 rfl ?_
          refine aw_goto (tgt := 174) dX8_signs_170 (by decide) ?_
          cases hF
          exact aw_iret rfl dX8_signs_174 rfl rfl rfl
      · rw [if_neg c5] at hF
        refine aw_iconst (v := (-1 : Int32)) dX8_signs_22 (by decide) ?_
        cases hF
        exact aw_iret rfl dX8_signs_23 rfl rfl rfl
def fX8_digit (R : qR) (I : qI) (a0 : Nat) (p1 : Int32) (p2 : Int32) : Option (Int32) :=
  some ((p1 >>> (((3 : Int32) * p2) &&& 31)) &&& (7 : Int32))
set_option maxHeartbeats 4000000 in
set_option maxRecDepth 100000 in
theorem sX8_digit {l : Launch} {G : qG} {R : qR} {I : qI} {a0 : Nat} {p1 : Int32} {p2 : Int32} {rv : Int32} (hW : qWT R) (ha0 : qok R a0 8) (hF : fX8_digit R I a0 p1 p2 = some rv) : qMt l G mX8_digit 1 [.ref (G.1 + a0), .int p1, .int p2] I R (some (.int rv)) I R := by
  unfold fX8_digit at hF
  refine qMt_of (by decide) (Nat.le_of_ble_eq_true rfl) ⟨Nat.le_refl _, Nat.le_refl _⟩ ?_
  show AW _ 0 [(0, .ref (G.1 + a0)), (1, .int p1), (2, .int p2)] [] I R
  refine aw_iload_n dX8_digit_0 1 rfl rfl ?_
  refine aw_iconst (v := (3 : Int32)) dX8_digit_1 (by decide) ?_
  refine aw_iload_n dX8_digit_2 2 rfl rfl ?_
  refine aw_imul dX8_digit_3 ?_
  refine aw_ishr dX8_digit_4 ?_
  refine aw_bipush (v := (7 : Int32)) dX8_digit_5 (by decide) ?_
  refine aw_iand dX8_digit_7 ?_
  cases hF
  exact aw_iret rfl dX8_digit_8 rfl rfl rfl
def cX8_behind_5 (N : Nat) (R : qR) (I : qI) (b0 : Nat) (v1 : Int32) (v2 : Int32) (v3 : Int32) (v4 : Int32) : Option ((Int32 × Int32) ⊕ (Int32)) :=
  if (I b0 10) ≤ v4 then
    (some (.inr v3))
  else
    ((fX8_digit R I b0 v1 v4).bind fun y2 =>
    (R.1 b0 13).bind fun r3 =>
    (qrd I R r3 v4).bind fun x4 =>
    if x4 ≤ y2 then
      (some (.inl (v3, (v4 + 1))))
    else
      ((R.1 b0 14).bind fun r6 =>
      (qrd I R r6 (((7 : Int32) * v4) + y2)).bind fun x7 =>
      if x7 = v2 then
        (some (.inl ((v3 + ((1 : Int32) <<< (((3 : Int32) * v4) &&& 31))), (v4 + 1))))
      else
        (some (.inl (v3, (v4 + 1))))))
set_option maxHeartbeats 4000000 in
set_option maxRecDepth 100000 in
theorem tX8_behind_5 {l : Launch} {G : qG} {N : Nat} {R : qR} {I : qI} {As : List Value} {rv : Option Value} {b0 : Nat} {v1 : Int32} {v2 : Int32} (hW : qWT R) (hb0 : qok R b0 8) {o : Int32} (hx : AW (Zm l G mX8_behind 2 As R rv I R) 67 [(3, .int o)] [] I R) : ∀ n s, qloop (fun s => cX8_behind_5 N R I b0 v1 v2 s.1 s.2) n s = some o → (match s with | (v3, v4) => AW (Zm l G mX8_behind 2 As R rv I R) 5 [(0, .ref (G.1 + b0)), (1, .int v1), (2, .int v2), (3, .int v3), (4, .int v4)] [] I R) := by
  apply qloop_ind
  intro s x hF hc he
  obtain ⟨v3, v4⟩ := s
  change cX8_behind_5 N R I b0 v1 v2 v3 v4 = some x at hF
  unfold cX8_behind_5 at hF
  show AW _ 5 [(0, .ref (G.1 + b0)), (1, .int v1), (2, .int v2), (3, .int v3), (4, .int v4)] [] I R
  refine aw_iload dX8_behind_5 4 rfl ?_
  refine aw_aload_n dX8_behind_7 0 rfl rfl ?_
  refine aw_geti fl_X8_120 (by decide) fg_X8_10 hb0 rfl dX8_behind_8 ?_
  refine aw_icmp_ge (tgt := 67) dX8_behind_11 (by decide) (fun c1 => ?_) (fun c1 => ?_)
  · rw [if_pos c1] at hF
    cases hF
    have hE := he _ rfl
    subst hE
    exact aw_sub [3] rfl hx
  · rw [if_neg c1] at hF
    refine aw_aload_n dX8_behind_14 0 rfl rfl ?_
    refine aw_iload_n dX8_behind_15 1 rfl rfl ?_
    refine aw_iload dX8_behind_16 4 rfl ?_
    obtain ⟨y2, ey2, hF⟩ := qbind hF
    refine aw_callVi (As := [.int v1, .int v4]) (sX8_digit hW hb0 ey2) cl_X8_127 rfl (qroomL (by decide) (by decide)) rfl hb0 (Nat.le_of_ble_eq_true rfl) dX8_behind_18 rfl ?_
    refine aw_istore (lv' := [(5, .int y2), (0, .ref (G.1 + b0)), (1, .int v1), (2, .int v2), (3, .int v3), (4, .int v4)]) dX8_behind_21 (Nat.le_of_ble_eq_true rfl) rfl ?_
    refine aw_iload dX8_behind_23 0 rfl ?_
    refine aw_aload_n dX8_behind_25 1 rfl rfl ?_
    obtain ⟨r3, er3, hF⟩ := qbind hF
    have kr3 : qok R r3 9 := hW.get hb0 er3 rfl
    refine aw_getr fl_X8_38 (by decide) fg_X8_13 hb0 er3 rfl dX8_behind_26 ?_
    refine aw_iload dX8_behind_29 5 rfl ?_
    obtain ⟨x4, ex4, hF⟩ := qbind hF
    refine aw_ialdq kr3 ex4 dX8_behind_31 ?_
    refine aw_icmp_ge (tgt := 61) dX8_behind_32 (by decide) (fun c5 => ?_) (fun c5 => ?_)
    · rw [if_pos c5] at hF
      refine aw_iinc (q := 5) (v := (v4 + 1)) (lv' := [(4, .int (v4 + 1)), (5, .int y2), (0, .ref (G.1 + b0)), (1, .int v1), (2, .int v2), (3, .int v3)]) dX8_behind_61 rfl rfl (Nat.le_of_ble_eq_true rfl) rfl ?_
      refine aw_goto (tgt := 5) dX8_behind_64 (by decide) ?_
      cases hF
      exact aw_sub [2, 3, 4, 5, 0] rfl (hc (v3, (v4 + 1)) rfl)
    · rw [if_neg c5] at hF
      refine aw_aload_n dX8_behind_35 1 rfl rfl ?_
      obtain ⟨r6, er6, hF⟩ := qbind hF
      have kr6 : qok R r6 9 := hW.get hb0 er6 rfl
      refine aw_getr fl_X8_41 (by decide) fg_X8_14 hb0 er6 rfl dX8_behind_36 ?_
      refine aw_bipush (v := (7 : Int32)) dX8_behind_39 (by decide) ?_
      refine aw_iload dX8_behind_41 5 rfl ?_
      refine aw_imul dX8_behind_43 ?_
      refine aw_iload dX8_behind_44 0 rfl ?_
      refine aw_iadd dX8_behind_46 ?_
      obtain ⟨x7, ex7, hF⟩ := qbind hF
      refine aw_ialdq kr6 ex7 dX8_behind_47 ?_
      refine aw_iload_n dX8_behind_48 3 rfl rfl ?_
      refine aw_icmp_ne (tgt := 61) dX8_behind_49 (by decide) (fun c8 => ?_) (fun c8 => ?_)
      · rw [if_neg c8] at hF
        refine aw_iinc (q := 5) (v := (v4 + 1)) (lv' := [(4, .int (v4 + 1)), (5, .int y2), (0, .ref (G.1 + b0)), (1, .int v1), (2, .int v2), (3, .int v3)]) dX8_behind_61 rfl rfl (Nat.le_of_ble_eq_true rfl) rfl ?_
        refine aw_goto (tgt := 5) dX8_behind_64 (by decide) ?_
        cases hF
        exact aw_sub [2, 3, 4, 5, 0] rfl (hc (v3, (v4 + 1)) rfl)
      · rw [if_pos c8] at hF
        refine aw_iload_n dX8_behind_52 4 rfl rfl ?_
        refine aw_iconst (v := (1 : Int32)) dX8_behind_53 (by decide) ?_
        refine aw_iconst (v := (3 : Int32)) dX8_behind_54 (by decide) ?_
        refine aw_iload dX8_behind_55 5 rfl ?_
        refine aw_imul dX8_behind_57 ?_
        refine aw_ishl dX8_behind_58 ?_
        refine aw_iadd dX8_behind_59 ?_
        refine aw_istore_n (lv' := [(3, .int (v3 + ((1 : Int32) <<< (((3 : Int32) * v4) &&& 31)))), (5, .int y2), (0, .ref (G.1 + b0)), (1, .int v1), (2, .int v2), (4, .int v4)]) dX8_behind_60 rfl (Nat.le_of_ble_eq_true rfl) rfl ?_
        refine aw_iinc (q := 5) (v := (v4 + 1)) (lv' := [(4, .int (v4 + 1)), (3, .int (v3 + ((1 : Int32) <<< (((3 : Int32) * v4) &&& 31)))), (5, .int y2), (0, .ref (G.1 + b0)), (1, .int v1), (2, .int v2)]) dX8_behind_61 rfl rfl (Nat.le_of_ble_eq_true rfl) rfl ?_
        refine aw_goto (tgt := 5) dX8_behind_64 (by decide) ?_
        cases hF
        exact aw_sub [3, 4, 5, 1, 0] rfl (hc ((v3 + ((1 : Int32) <<< (((3 : Int32) * v4) &&& 31))), (v4 + 1)) rfl)
def fX8_behind (N : Nat) (R : qR) (I : qI) (a0 : Nat) (p1 : Int32) (p2 : Int32) : Option (Int32) :=
  (qloop (fun s => cX8_behind_5 N R I a0 p1 p2 s.1 s.2) N (p1, (0 : Int32))).bind fun o9 =>
  some o9
set_option maxHeartbeats 4000000 in
set_option maxRecDepth 100000 in
theorem sX8_behind {l : Launch} {G : qG} {N : Nat} {R : qR} {I : qI} {a0 : Nat} {p1 : Int32} {p2 : Int32} {rv : Int32} (hW : qWT R) (ha0 : qok R a0 8) (hF : fX8_behind N R I a0 p1 p2 = some rv) : qMt l G mX8_behind 2 [.ref (G.1 + a0), .int p1, .int p2] I R (some (.int rv)) I R := by
  unfold fX8_behind at hF
  refine qMt_of (by decide) (Nat.le_of_ble_eq_true rfl) ⟨Nat.le_refl _, Nat.le_refl _⟩ ?_
  show AW _ 0 [(0, .ref (G.1 + a0)), (1, .int p1), (2, .int p2)] [] I R
  refine aw_iload_n dX8_behind_0 1 rfl rfl ?_
  refine aw_istore_n (lv' := [(3, .int p1), (0, .ref (G.1 + a0)), (1, .int p1), (2, .int p2)]) dX8_behind_1 rfl (Nat.le_of_ble_eq_true rfl) rfl ?_
  refine aw_iconst (v := (0 : Int32)) dX8_behind_2 (by decide) ?_
  refine aw_istore (lv' := [(4, .int (0 : Int32)), (3, .int p1), (0, .ref (G.1 + a0)), (1, .int p1), (2, .int p2)]) dX8_behind_3 (Nat.le_of_ble_eq_true rfl) rfl ?_
  obtain ⟨o9, eo9, hF⟩ := qbind hF
  refine aw_sub [2, 3, 4, 1, 0] rfl (tX8_behind_5 hW ha0 (o := o9) ?_ N (p1, (0 : Int32)) eo9)
  show AW _ 67 [(3, .int o9)] [] I R
  refine aw_iload_n dX8_behind_67 0 rfl rfl ?_
  cases hF
  exact aw_iret rfl dX8_behind_68 rfl rfl rfl
def cX8_isPlace_2 (N : Nat) (R : qR) (I : qI) (b0 : Nat) (v1 : Int32) (v2 : Int32) : Option ((Int32) ⊕ ((Unit) ⊕ (Int32))) :=
  if (I b0 10) ≤ v2 then
    (some (.inr (.inl ())))
  else
    ((fX8_digit R I b0 v1 v2).bind fun y2 =>
    (R.1 b0 13).bind fun r3 =>
    (qrd I R r3 v2).bind fun x4 =>
    if y2 ≤ x4 then
      (some (.inl (v2 + 1)))
    else
      (some (.inr (.inr (0 : Int32)))))
set_option maxHeartbeats 4000000 in
set_option maxRecDepth 100000 in
theorem tX8_isPlace_2 {l : Launch} {G : qG} {N : Nat} {R : qR} {I : qI} {As : List Value} {rv : Option Value} {b0 : Nat} {v1 : Int32} (hW : qWT R) (hb0 : qok R b0 8) {o : (Unit) ⊕ (Int32)} (hx : match o with | .inl _ => AW (Zm l G mX8_isPlace 2 As R rv I R) 33 [] [] I R | .inr rrv => rv = some (.int rrv) ∧ True) : ∀ n s, qloop (fun s => cX8_isPlace_2 N R I b0 v1 s) n s = some o → AW (Zm l G mX8_isPlace 2 As R rv I R) 2 [(0, .ref (G.1 + b0)), (1, .int v1), (2, .int s)] [] I R := by
  apply qloop_ind
  intro s x hF hc he
  obtain ⟨v2, rfl⟩ : ∃ z, z = s := ⟨s, rfl⟩
  change cX8_isPlace_2 N R I b0 v1 v2 = some x at hF
  unfold cX8_isPlace_2 at hF
  show AW _ 2 [(0, .ref (G.1 + b0)), (1, .int v1), (2, .int v2)] [] I R
  refine aw_iload_n dX8_isPlace_2 2 rfl rfl ?_
  refine aw_aload_n dX8_isPlace_3 0 rfl rfl ?_
  refine aw_geti fl_X8_120 (by decide) fg_X8_10 hb0 rfl dX8_isPlace_4 ?_
  refine aw_icmp_ge (tgt := 33) dX8_isPlace_7 (by decide) (fun c1 => ?_) (fun c1 => ?_)
  · rw [if_pos c1] at hF
    cases hF
    have hE := he _ rfl
    subst hE
    exact aw_sub [] rfl hx
  · rw [if_neg c1] at hF
    refine aw_aload_n dX8_isPlace_10 0 rfl rfl ?_
    refine aw_iload_n dX8_isPlace_11 1 rfl rfl ?_
    refine aw_iload_n dX8_isPlace_12 2 rfl rfl ?_
    obtain ⟨y2, ey2, hF⟩ := qbind hF
    refine aw_callVi (As := [.int v1, .int v2]) (sX8_digit hW hb0 ey2) cl_X8_127 rfl (qroomL (by decide) (by decide)) rfl hb0 (Nat.le_of_ble_eq_true rfl) dX8_isPlace_13 rfl ?_
    refine aw_aload_n dX8_isPlace_16 0 rfl rfl ?_
    obtain ⟨r3, er3, hF⟩ := qbind hF
    have kr3 : qok R r3 9 := hW.get hb0 er3 rfl
    refine aw_getr fl_X8_38 (by decide) fg_X8_13 hb0 er3 rfl dX8_isPlace_17 ?_
    refine aw_iload_n dX8_isPlace_20 2 rfl rfl ?_
    obtain ⟨x4, ex4, hF⟩ := qbind hF
    refine aw_ialdq kr3 ex4 dX8_isPlace_21 ?_
    refine aw_icmp_le (tgt := 27) dX8_isPlace_22 (by decide) (fun c5 => ?_) (fun c5 => ?_)
    · rw [if_pos c5] at hF
      refine aw_iinc (q := 2) (v := (v2 + 1)) (lv' := [(2, .int (v2 + 1)), (0, .ref (G.1 + b0)), (1, .int v1)]) dX8_isPlace_27 rfl rfl (Nat.le_of_ble_eq_true rfl) rfl ?_
      refine aw_goto (tgt := 2) dX8_isPlace_30 (by decide) ?_
      cases hF
      exact aw_sub [1, 2, 0] rfl (hc (v2 + 1) rfl)
    · rw [if_neg c5] at hF
      refine aw_iconst (v := (0 : Int32)) dX8_isPlace_25 (by decide) ?_
      cases hF
      have hE := he _ rfl
      subst hE
      exact aw_zret rfl (by decide) dX8_isPlace_26 hx.1 rfl rfl
def fX8_isPlace (N : Nat) (R : qR) (I : qI) (a0 : Nat) (p1 : Int32) : Option (Int32) :=
  (qloop (fun s => cX8_isPlace_2 N R I a0 p1 s) N (0 : Int32)).bind fun o6 =>
  qx o6 (fun e7 =>
    some (1 : Int32)) (fun q8 => some q8)
set_option maxHeartbeats 4000000 in
set_option maxRecDepth 100000 in
theorem sX8_isPlace {l : Launch} {G : qG} {N : Nat} {R : qR} {I : qI} {a0 : Nat} {p1 : Int32} {rv : Int32} (hW : qWT R) (ha0 : qok R a0 8) (hF : fX8_isPlace N R I a0 p1 = some rv) : qMt l G mX8_isPlace 2 [.ref (G.1 + a0), .int p1] I R (some (.int rv)) I R := by
  unfold fX8_isPlace at hF
  refine qMt_of (by decide) (Nat.le_of_ble_eq_true rfl) ⟨Nat.le_refl _, Nat.le_refl _⟩ ?_
  show AW _ 0 [(0, .ref (G.1 + a0)), (1, .int p1)] [] I R
  refine aw_iconst (v := (0 : Int32)) dX8_isPlace_0 (by decide) ?_
  refine aw_istore_n (lv' := [(2, .int (0 : Int32)), (0, .ref (G.1 + a0)), (1, .int p1)]) dX8_isPlace_1 rfl (Nat.le_of_ble_eq_true rfl) rfl ?_
  obtain ⟨o6, eo6, hF⟩ := qbind hF
  refine aw_sub [1, 2, 0] rfl (tX8_isPlace_2 hW ha0 (o := o6) ?_ N (0 : Int32) eo6)
  cases o6 with
  | inl e7 =>
    replace hF := qxl hF
    show AW _ 33 [] [] I R
    refine aw_iconst (v := (1 : Int32)) dX8_isPlace_33 (by decide) ?_
    cases hF
    exact aw_zret rfl (by decide) dX8_isPlace_34 rfl rfl rfl
  | inr q8 =>
    replace hF := qxr hF
    cases hF
    exact ⟨rfl, trivial⟩
