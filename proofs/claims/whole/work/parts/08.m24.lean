def cX8_findRest_2 (N : Nat) (R : qR) (b0 : Nat) (v1 : Int32) (v2 : Int32) (v3 : Int32) (I : qI) : Option ((Int32 × qI) ⊕ (qI)) :=
  if (770 : Int32) ≤ v3 then
    (some (.inr I))
  else
    ((R.1 b0 24).bind fun r2 =>
    (qwz I R r2 v3 (0 : Int32)).bind fun I3 =>
    some (.inl ((v3 + 1), I3)))
set_option maxHeartbeats 4000000 in
set_option maxRecDepth 100000 in
theorem tX8_findRest_2 {l : Launch} {G : qG} {N : Nat} {R : qR} {As : List Value} {rv : Option Value} {I1 : qI} {b0 : Nat} {v1 : Int32} {v2 : Int32} (hW : qWT R) (hb0 : qok R b0 8) {o : qI} (hx : AW (Zm l G mX8_findRest 3 As R rv I1 R) 22 [(0, .ref (G.1 + b0)), (1, .int v1), (2, .int v2)] [] o R) : ∀ n s, qloop (fun s => cX8_findRest_2 N R b0 v1 v2 s.1 s.2) n s = some o → (match s with | (v3, I) => AW (Zm l G mX8_findRest 3 As R rv I1 R) 2 [(0, .ref (G.1 + b0)), (1, .int v1), (2, .int v2), (3, .int v3)] [] I R) := by
  apply qloop_ind
  intro s x hF hc he
  obtain ⟨v3, I⟩ := s
  change cX8_findRest_2 N R b0 v1 v2 v3 I = some x at hF
  unfold cX8_findRest_2 at hF
  show AW _ 2 [(0, .ref (G.1 + b0)), (1, .int v1), (2, .int v2), (3, .int v3)] [] I R
  refine aw_iload_n dX8_findRest_2 3 rfl rfl ?_
  refine aw_sipush (v := (770 : Int32)) dX8_findRest_3 (by decide) ?_
  refine aw_icmp_ge (tgt := 22) dX8_findRest_6 (by decide) (fun c1 => ?_) (fun c1 => ?_)
  · rw [if_pos c1] at hF
    cases hF
    have hE := he _ rfl
    subst hE
    exact aw_sub [0, 1, 2] rfl hx
  · rw [if_neg c1] at hF
    refine aw_aload_n dX8_findRest_9 0 rfl rfl ?_
    obtain ⟨r2, er2, hF⟩ := qbind hF
    have kr2 : qok R r2 10 := hW.get hb0 er2 rfl
    refine aw_getr fl_X8_70 (by decide) fg_X8_24 hb0 er2 rfl dX8_findRest_10 ?_
    refine aw_iload_n dX8_findRest_13 3 rfl rfl ?_
    refine aw_iconst (v := (0 : Int32)) dX8_findRest_14 (by decide) ?_
    obtain ⟨I3, eI3, hF⟩ := qbind hF
    refine aw_zastq kr2 eI3 dX8_findRest_15 ?_
    refine aw_iinc (q := 3) (v := (v3 + 1)) (lv' := [(3, .int (v3 + 1)), (0, .ref (G.1 + b0)), (1, .int v1), (2, .int v2)]) dX8_findRest_16 rfl rfl (Nat.le_of_ble_eq_true rfl) rfl ?_
    refine aw_goto (tgt := 2) dX8_findRest_19 (by decide) ?_
    cases hF
    exact aw_sub [1, 2, 3, 0] rfl (hc ((v3 + 1), I3) rfl)
def cX8_findRest_45 (N : Nat) (R : qR) (b0 : Nat) (v1 : Int32) (v2 : Int32) (v3 : Int32) (v4 : Int32) (v5 : Int32) (I : qI) : Option ((Int32 × qI) ⊕ (qI)) :=
  (R.1 b0 4).bind fun r7 =>
  (qrd I R r7 v4).bind fun x8 =>
  if x8 ≤ v5 then
    (some (.inr I))
  else
    ((fX8_runs R I b0 v4 v2).bind fun y10 =>
    if y10 = 0 then
      (some (.inr I))
    else
      ((R.1 b0 24).bind fun r12 =>
      if v3 = 0 then
        ((R.1 b0 5).bind fun r16 =>
        (qrd I R r16 (((7 : Int32) * v4) + v5)).bind fun x17 =>
        if x17 = v1 then
          ((R.1 b0 6).bind fun r20 =>
          (qrd I R r20 (((7 : Int32) * v4) + v5)).bind fun x21 =>
          if x21 = (I b0 26) then
            ((qwz I R r12 (((70 : Int32) * v3) + (((7 : Int32) * v4) + v5)) (1 : Int32)).bind fun I24 =>
            some (.inl ((v5 + 1), I24)))
          else
            ((qwz I R r12 (((70 : Int32) * v3) + (((7 : Int32) * v4) + v5)) (0 : Int32)).bind fun I23 =>
            some (.inl ((v5 + 1), I23))))
        else
          ((qwz I R r12 (((70 : Int32) * v3) + (((7 : Int32) * v4) + v5)) (0 : Int32)).bind fun I19 =>
          some (.inl ((v5 + 1), I19))))
      else
        ((fX8_canGoOn N R I b0 (((7 : Int32) * v4) + v5) (v3 - (1 : Int32)) v2).bind fun y14 =>
        (qwz I R r12 (((70 : Int32) * v3) + (((7 : Int32) * v4) + v5)) y14).bind fun I15 =>
        some (.inl ((v5 + 1), I15)))))
set_option maxHeartbeats 4000000 in
set_option maxRecDepth 100000 in
theorem tX8_findRest_45 {l : Launch} {G : qG} {N : Nat} {R : qR} {As : List Value} {rv : Option Value} {I1 : qI} {b0 : Nat} {v1 : Int32} {v2 : Int32} {v3 : Int32} {v4 : Int32} (hW : qWT R) (hb0 : qok R b0 8) {o : qI} (hx : AW (Zm l G mX8_findRest 3 As R rv I1 R) 142 [(0, .ref (G.1 + b0)), (1, .int v1), (2, .int v2), (3, .int v3), (4, .int v4)] [] o R) : ∀ n s, qloop (fun s => cX8_findRest_45 N R b0 v1 v2 v3 v4 s.1 s.2) n s = some o → (match s with | (v5, I) => AW (Zm l G mX8_findRest 3 As R rv I1 R) 45 [(0, .ref (G.1 + b0)), (1, .int v1), (2, .int v2), (3, .int v3), (4, .int v4), (5, .int v5)] [] I R) := by
  apply qloop_ind
  intro s x hF hc he
  obtain ⟨v5, I⟩ := s
  change cX8_findRest_45 N R b0 v1 v2 v3 v4 v5 I = some x at hF
  unfold cX8_findRest_45 at hF
  show AW _ 45 [(0, .ref (G.1 + b0)), (1, .int v1), (2, .int v2), (3, .int v3), (4, .int v4), (5, .int v5)] [] I R
  refine aw_iload dX8_findRest_45 5 rfl ?_
  refine aw_aload_n dX8_findRest_47 0 rfl rfl ?_
  obtain ⟨r7, er7, hF⟩ := qbind hF
  have kr7 : qok R r7 9 := hW.get hb0 er7 rfl
  refine aw_getr fl_X8_17 (by decide) fg_X8_4 hb0 er7 rfl dX8_findRest_48 ?_
  refine aw_iload dX8_findRest_51 4 rfl ?_
  obtain ⟨x8, ex8, hF⟩ := qbind hF
  refine aw_ialdq kr7 ex8 dX8_findRest_53 ?_
  refine aw_icmp_ge (tgt := 142) dX8_findRest_54 (by decide) (fun c9 => ?_) (fun c9 => ?_)
  · rw [if_pos c9] at hF
    cases hF
    have hE := he _ rfl
    subst hE
    exact aw_sub [0, 1, 2, 3, 4] rfl hx
  · rw [if_neg c9] at hF
    refine aw_aload_n dX8_findRest_57 0 rfl rfl ?_
    refine aw_iload dX8_findRest_58 4 rfl ?_
    refine aw_iload_n dX8_findRest_60 2 rfl rfl ?_
    obtain ⟨y10, ey10, hF⟩ := qbind hF
    refine aw_callVi (As := [.int v4, .int v2]) (sX8_runs hW hb0 ey10) cl_X8_179 rfl (qroomL (by decide) (by decide)) rfl hb0 (Nat.le_of_ble_eq_true rfl) dX8_findRest_61 rfl ?_
    refine aw_if_eq (tgt := 142) dX8_findRest_64 (by decide) (fun c11 => ?_) (fun c11 => ?_)
    · rw [if_pos c11] at hF
      cases hF
      have hE := he _ rfl
      subst hE
      exact aw_sub [0, 1, 2, 3, 4] rfl hx
    · rw [if_neg c11] at hF
      refine aw_bipush (v := (7 : Int32)) dX8_findRest_67 (by decide) ?_
      refine aw_iload dX8_findRest_69 4 rfl ?_
      refine aw_imul dX8_findRest_71 ?_
      refine aw_iload dX8_findRest_72 5 rfl ?_
      refine aw_iadd dX8_findRest_74 ?_
      refine aw_istore (lv' := [(6, .int (((7 : Int32) * v4) + v5)), (0, .ref (G.1 + b0)), (1, .int v1), (2, .int v2), (3, .int v3), (4, .int v4), (5, .int v5)]) dX8_findRest_75 (Nat.le_of_ble_eq_true rfl) rfl ?_
      refine aw_aload_n dX8_findRest_77 1 rfl rfl ?_
      obtain ⟨r12, er12, hF⟩ := qbind hF
      have kr12 : qok R r12 10 := hW.get hb0 er12 rfl
      refine aw_getr fl_X8_70 (by decide) fg_X8_24 hb0 er12 rfl dX8_findRest_78 ?_
      refine aw_bipush (v := (70 : Int32)) dX8_findRest_81 (by decide) ?_
      refine aw_iload_n dX8_findRest_83 4 rfl rfl ?_
      refine aw_imul dX8_findRest_84 ?_
      refine aw_iload dX8_findRest_85 0 rfl ?_
      refine aw_iadd dX8_findRest_87 ?_
      refine aw_iload_n dX8_findRest_88 4 rfl rfl ?_
      refine aw_if_ne (tgt := 125) dX8_findRest_89 (by decide) (fun c13 => ?_) (fun c13 => ?_)
      · rw [if_neg c13] at hF
        refine aw_aload_n dX8_findRest_125 1 rfl rfl ?_
        refine aw_iload dX8_findRest_126 0 rfl ?_
        refine aw_iload_n dX8_findRest_128 4 rfl rfl ?_
        refine aw_iconst (v := (1 : Int32)) dX8_findRest_129 (by decide) ?_
        refine aw_isub dX8_findRest_130 ?_
        refine aw_iload_n dX8_findRest_131 3 rfl rfl ?_
        obtain ⟨y14, ey14, hF⟩ := qbind hF
        refine aw_callVi (As := [.int (((7 : Int32) * v4) + v5), .int (v3 - (1 : Int32)), .int v2]) (sX8_canGoOn hW hb0 ey14) cl_X8_192 rfl (qroomL (by decide) (by decide)) rfl hb0 (Nat.le_of_ble_eq_true rfl) dX8_findRest_132 rfl ?_
        obtain ⟨I15, eI15, hF⟩ := qbind hF
        refine aw_zastq kr12 eI15 dX8_findRest_135 ?_
        refine aw_iinc (q := 6) (v := (v5 + 1)) (lv' := [(5, .int (v5 + 1)), (6, .int (((7 : Int32) * v4) + v5)), (0, .ref (G.1 + b0)), (1, .int v1), (2, .int v2), (3, .int v3), (4, .int v4)]) dX8_findRest_136 rfl rfl (Nat.le_of_ble_eq_true rfl) rfl ?_
        refine aw_goto (tgt := 45) dX8_findRest_139 (by decide) ?_
        cases hF
        exact aw_sub [2, 3, 4, 5, 6, 0] rfl (hc ((v5 + 1), I15) rfl)
      · rw [if_pos c13] at hF
        refine aw_aload_n dX8_findRest_92 1 rfl rfl ?_
        obtain ⟨r16, er16, hF⟩ := qbind hF
        have kr16 : qok R r16 9 := hW.get hb0 er16 rfl
        refine aw_getr fl_X8_20 (by decide) fg_X8_5 hb0 er16 rfl dX8_findRest_93 ?_
        refine aw_iload dX8_findRest_96 0 rfl ?_
        obtain ⟨x17, ex17, hF⟩ := qbind hF
        refine aw_ialdq kr16 ex17 dX8_findRest_98 ?_
        refine aw_iload_n dX8_findRest_99 2 rfl rfl ?_
        refine aw_icmp_ne (tgt := 121) dX8_findRest_100 (by decide) (fun c18 => ?_) (fun c18 => ?_)
        · rw [if_neg c18] at hF
          refine aw_iconst (v := (0 : Int32)) dX8_findRest_121 (by decide) ?_
          refine aw_goto (tgt := 135) dX8_findRest_122 (by decide) ?_
          obtain ⟨I19, eI19, hF⟩ := qbind hF
          refine aw_zastq kr12 eI19 dX8_findRest_135 ?_
          refine aw_iinc (q := 6) (v := (v5 + 1)) (lv' := [(5, .int (v5 + 1)), (6, .int (((7 : Int32) * v4) + v5)), (0, .ref (G.1 + b0)), (1, .int v1), (2, .int v2), (3, .int v3), (4, .int v4)]) dX8_findRest_136 rfl rfl (Nat.le_of_ble_eq_true rfl) rfl ?_
          refine aw_goto (tgt := 45) dX8_findRest_139 (by decide) ?_
          cases hF
          exact aw_sub [2, 3, 4, 5, 6, 0] rfl (hc ((v5 + 1), I19) rfl)
        · rw [if_pos c18] at hF
          refine aw_aload_n dX8_findRest_103 1 rfl rfl ?_
          obtain ⟨r20, er20, hF⟩ := qbind hF
          have kr20 : qok R r20 9 := hW.get hb0 er20 rfl
          refine aw_getr fl_X8_23 (by decide) fg_X8_6 hb0 er20 rfl dX8_findRest_104 ?_
          refine aw_iload dX8_findRest_107 0 rfl ?_
          obtain ⟨x21, ex21, hF⟩ := qbind hF
          refine aw_ialdq kr20 ex21 dX8_findRest_109 ?_
          refine aw_aload_n dX8_findRest_110 1 rfl rfl ?_
          refine aw_geti fl_X8_189 (by decide) fg_X8_26 hb0 rfl dX8_findRest_111 ?_
          refine aw_icmp_ne (tgt := 121) dX8_findRest_114 (by decide) (fun c22 => ?_) (fun c22 => ?_)
          · rw [if_neg c22] at hF
            refine aw_iconst (v := (0 : Int32)) dX8_findRest_121 (by decide) ?_
            refine aw_goto (tgt := 135) dX8_findRest_122 (by decide) ?_
            obtain ⟨I23, eI23, hF⟩ := qbind hF
            refine aw_zastq kr12 eI23 dX8_findRest_135 ?_
            refine aw_iinc (q := 6) (v := (v5 + 1)) (lv' := [(5, .int (v5 + 1)), (6, .int (((7 : Int32) * v4) + v5)), (0, .ref (G.1 + b0)), (1, .int v1), (2, .int v2), (3, .int v3), (4, .int v4)]) dX8_findRest_136 rfl rfl (Nat.le_of_ble_eq_true rfl) rfl ?_
            refine aw_goto (tgt := 45) dX8_findRest_139 (by decide) ?_
            cases hF
            exact aw_sub [2, 3, 4, 5, 6, 0] rfl (hc ((v5 + 1), I23) rfl)
          · rw [if_pos c22] at hF
            refine aw_iconst (v := (1 : Int32)) dX8_findRest_117 (by decide) ?_
            refine aw_goto (tgt := 135) dX8_findRest_118 (by decide) ?_
            obtain ⟨I24, eI24, hF⟩ := qbind hF
            refine aw_zastq kr12 eI24 dX8_findRest_135 ?_
            refine aw_iinc (q := 6) (v := (v5 + 1)) (lv' := [(5, .int (v5 + 1)), (6, .int (((7 : Int32) * v4) + v5)), (0, .ref (G.1 + b0)), (1, .int v1), (2, .int v2), (3, .int v3), (4, .int v4)]) dX8_findRest_136 rfl rfl (Nat.le_of_ble_eq_true rfl) rfl ?_
            refine aw_goto (tgt := 45) dX8_findRest_139 (by decide) ?_
            cases hF
            exact aw_sub [2, 3, 4, 5, 6, 0] rfl (hc ((v5 + 1), I24) rfl)
def cX8_findRest_33 (N : Nat) (R : qR) (b0 : Nat) (v1 : Int32) (v2 : Int32) (v3 : Int32) (v4 : Int32) (I : qI) : Option ((Int32 × qI) ⊕ (qI)) :=
  if (I b0 1) ≤ v4 then
    (some (.inr I))
  else
    ((qloop (fun s => cX8_findRest_45 N R b0 v1 v2 v3 v4 s.1 s.2) N ((1 : Int32), I)).bind fun o25 =>
    some (.inl ((v4 + 1), o25)))
set_option maxHeartbeats 4000000 in
set_option maxRecDepth 100000 in
theorem tX8_findRest_33 {l : Launch} {G : qG} {N : Nat} {R : qR} {As : List Value} {rv : Option Value} {I1 : qI} {b0 : Nat} {v1 : Int32} {v2 : Int32} {v3 : Int32} (hW : qWT R) (hb0 : qok R b0 8) {o : qI} (hx : AW (Zm l G mX8_findRest 3 As R rv I1 R) 148 [(0, .ref (G.1 + b0)), (1, .int v1), (2, .int v2), (3, .int v3)] [] o R) : ∀ n s, qloop (fun s => cX8_findRest_33 N R b0 v1 v2 v3 s.1 s.2) n s = some o → (match s with | (v4, I) => AW (Zm l G mX8_findRest 3 As R rv I1 R) 33 [(0, .ref (G.1 + b0)), (1, .int v1), (2, .int v2), (3, .int v3), (4, .int v4)] [] I R) := by
  apply qloop_ind
  intro s x hF hc he
  obtain ⟨v4, I⟩ := s
  change cX8_findRest_33 N R b0 v1 v2 v3 v4 I = some x at hF
  unfold cX8_findRest_33 at hF
  show AW _ 33 [(0, .ref (G.1 + b0)), (1, .int v1), (2, .int v2), (3, .int v3), (4, .int v4)] [] I R
  refine aw_iload dX8_findRest_33 4 rfl ?_
  refine aw_aload_n dX8_findRest_35 0 rfl rfl ?_
  refine aw_geti fl_X8_97 (by decide) fg_X8_1 hb0 rfl dX8_findRest_36 ?_
  refine aw_icmp_ge (tgt := 148) dX8_findRest_39 (by decide) (fun c6 => ?_) (fun c6 => ?_)
  · rw [if_pos c6] at hF
    cases hF
    have hE := he _ rfl
    subst hE
    exact aw_sub [0, 1, 2, 3] rfl hx
  · rw [if_neg c6] at hF
    refine aw_iconst (v := (1 : Int32)) dX8_findRest_42 (by decide) ?_
    refine aw_istore (lv' := [(5, .int (1 : Int32)), (0, .ref (G.1 + b0)), (1, .int v1), (2, .int v2), (3, .int v3), (4, .int v4)]) dX8_findRest_43 (Nat.le_of_ble_eq_true rfl) rfl ?_
    obtain ⟨o25, eo25, hF⟩ := qbind hF
    refine aw_sub [1, 2, 3, 4, 5, 0] rfl (tX8_findRest_45 hW hb0 (o := o25) ?_ N ((1 : Int32), I) eo25)
    show AW _ 142 [(0, .ref (G.1 + b0)), (1, .int v1), (2, .int v2), (3, .int v3), (4, .int v4)] [] o25 R
    refine aw_iinc (q := 4) (v := (v4 + 1)) (lv' := [(4, .int (v4 + 1)), (0, .ref (G.1 + b0)), (1, .int v1), (2, .int v2), (3, .int v3)]) dX8_findRest_142 rfl rfl (Nat.le_of_ble_eq_true rfl) rfl ?_
    refine aw_goto (tgt := 33) dX8_findRest_145 (by decide) ?_
    cases hF
    exact aw_sub [1, 2, 3, 4, 0] rfl (hc ((v4 + 1), o25) rfl)
def cX8_findRest_24 (N : Nat) (R : qR) (b0 : Nat) (v1 : Int32) (v2 : Int32) (v3 : Int32) (I : qI) : Option ((Int32 × qI) ⊕ (qI)) :=
  if (11 : Int32) ≤ v3 then
    (some (.inr I))
  else
    ((qloop (fun s => cX8_findRest_33 N R b0 v1 v2 v3 s.1 s.2) N ((0 : Int32), I)).bind fun o26 =>
    some (.inl ((v3 + 1), o26)))
set_option maxHeartbeats 4000000 in
set_option maxRecDepth 100000 in
theorem tX8_findRest_24 {l : Launch} {G : qG} {N : Nat} {R : qR} {As : List Value} {rv : Option Value} {I1 : qI} {b0 : Nat} {v1 : Int32} {v2 : Int32} (hW : qWT R) (hb0 : qok R b0 8) {o : qI} (hx : AW (Zm l G mX8_findRest 3 As R rv I1 R) 154 [] [] o R) : ∀ n s, qloop (fun s => cX8_findRest_24 N R b0 v1 v2 s.1 s.2) n s = some o → (match s with | (v3, I) => AW (Zm l G mX8_findRest 3 As R rv I1 R) 24 [(0, .ref (G.1 + b0)), (1, .int v1), (2, .int v2), (3, .int v3)] [] I R) := by
  apply qloop_ind
  intro s x hF hc he
  obtain ⟨v3, I⟩ := s
  change cX8_findRest_24 N R b0 v1 v2 v3 I = some x at hF
  unfold cX8_findRest_24 at hF
  show AW _ 24 [(0, .ref (G.1 + b0)), (1, .int v1), (2, .int v2), (3, .int v3)] [] I R
  refine aw_iload_n dX8_findRest_24 3 rfl rfl ?_
  refine aw_bipush (v := (11 : Int32)) dX8_findRest_25 (by decide) ?_
  refine aw_icmp_ge (tgt := 154) dX8_findRest_27 (by decide) (fun c5 => ?_) (fun c5 => ?_)
  · rw [if_pos c5] at hF
    cases hF
    have hE := he _ rfl
    subst hE
    exact aw_sub [] rfl hx
  · rw [if_neg c5] at hF
    refine aw_iconst (v := (0 : Int32)) dX8_findRest_30 (by decide) ?_
    refine aw_istore (lv' := [(4, .int (0 : Int32)), (0, .ref (G.1 + b0)), (1, .int v1), (2, .int v2), (3, .int v3)]) dX8_findRest_31 (Nat.le_of_ble_eq_true rfl) rfl ?_
    obtain ⟨o26, eo26, hF⟩ := qbind hF
    refine aw_sub [1, 2, 3, 4, 0] rfl (tX8_findRest_33 hW hb0 (o := o26) ?_ N ((0 : Int32), I) eo26)
    show AW _ 148 [(0, .ref (G.1 + b0)), (1, .int v1), (2, .int v2), (3, .int v3)] [] o26 R
    refine aw_iinc (q := 3) (v := (v3 + 1)) (lv' := [(3, .int (v3 + 1)), (0, .ref (G.1 + b0)), (1, .int v1), (2, .int v2)]) dX8_findRest_148 rfl rfl (Nat.le_of_ble_eq_true rfl) rfl ?_
    refine aw_goto (tgt := 24) dX8_findRest_151 (by decide) ?_
    cases hF
    exact aw_sub [1, 2, 3, 0] rfl (hc ((v3 + 1), o26) rfl)
def fX8_findRest (N : Nat) (R : qR) (I : qI) (a0 : Nat) (p1 : Int32) (p2 : Int32) : Option (qI) :=
  (qloop (fun s => cX8_findRest_2 N R a0 p1 p2 s.1 s.2) N ((0 : Int32), I)).bind fun o4 =>
  (qloop (fun s => cX8_findRest_24 N R a0 p1 p2 s.1 s.2) N ((0 : Int32), o4)).bind fun o27 =>
  some o27
set_option maxHeartbeats 4000000 in
set_option maxRecDepth 100000 in
theorem sX8_findRest {l : Launch} {G : qG} {N : Nat} {R : qR} {I : qI} {a0 : Nat} {p1 : Int32} {p2 : Int32} {rI : qI} (hW : qWT R) (ha0 : qok R a0 8) (hF : fX8_findRest N R I a0 p1 p2 = some rI) : qMt l G mX8_findRest 3 [.ref (G.1 + a0), .int p1, .int p2] I R (none) rI R := by
  unfold fX8_findRest at hF
  refine qMt_of (by decide) (Nat.le_of_ble_eq_true rfl) ⟨Nat.le_refl _, Nat.le_refl _⟩ ?_
  show AW _ 0 [(0, .ref (G.1 + a0)), (1, .int p1), (2, .int p2)] [] I R
  refine aw_iconst (v := (0 : Int32)) dX8_findRest_0 (by decide) ?_
  refine aw_istore_n (lv' := [(3, .int (0 : Int32)), (0, .ref (G.1 + a0)), (1, .int p1), (2, .int p2)]) dX8_findRest_1 rfl (Nat.le_of_ble_eq_true rfl) rfl ?_
  obtain ⟨o4, eo4, hF⟩ := qbind hF
  refine aw_sub [1, 2, 3, 0] rfl (tX8_findRest_2 hW ha0 (o := o4) ?_ N ((0 : Int32), I) eo4)
  show AW _ 22 [(0, .ref (G.1 + a0)), (1, .int p1), (2, .int p2)] [] o4 R
  refine aw_iconst (v := (0 : Int32)) dX8_findRest_22 (by decide) ?_
  refine aw_istore_n (lv' := [(3, .int (0 : Int32)), (0, .ref (G.1 + a0)), (1, .int p1), (2, .int p2)]) dX8_findRest_23 rfl (Nat.le_of_ble_eq_true rfl) rfl ?_
  obtain ⟨o27, eo27, hF⟩ := qbind hF
  refine aw_sub [1, 2, 3, 0] rfl (tX8_findRest_24 hW ha0 (o := o27) ?_ N ((0 : Int32), o4) eo27)
  show AW _ 154 [] [] o27 R
  cases hF
  exact aw_vret rfl dX8_findRest_154 rfl rfl rfl
def cX8_canBoard_34 (N : Nat) (R : qR) (I : qI) (b0 : Nat) (v1 : Int32) (v5 : Int32) : Option ((Int32) ⊕ ((Unit) ⊕ (Int32))) :=
  if (70 : Int32) ≤ v5 then
    (some (.inr (.inl ())))
  else
    ((R.1 b0 30).bind fun r3 =>
    (qrd I R r3 v5).bind fun x4 =>
    if x4 = 0 then
      (some (.inl (v5 + 1)))
    else
      ((fX8_canChange R I b0 v5 v1).bind fun y6 =>
      if y6 = 0 then
        (some (.inl (v5 + 1)))
      else
        (some (.inr (.inr (1 : Int32))))))
set_option maxHeartbeats 4000000 in
set_option maxRecDepth 100000 in
theorem tX8_canBoard_34 {l : Launch} {G : qG} {N : Nat} {R : qR} {I : qI} {As : List Value} {rv : Option Value} {b0 : Nat} {v1 : Int32} (hW : qWT R) (hb0 : qok R b0 8) {o : (Unit) ⊕ (Int32)} (hx : match o with | .inl _ => AW (Zm l G mX8_canBoard 2 As R rv I R) 69 [] [] I R | .inr rrv => rv = some (.int rrv) ∧ True) : ∀ n s, qloop (fun s => cX8_canBoard_34 N R I b0 v1 s) n s = some o → AW (Zm l G mX8_canBoard 2 As R rv I R) 34 [(0, .ref (G.1 + b0)), (1, .int v1), (5, .int s)] [] I R := by
  apply qloop_ind
  intro s x hF hc he
  obtain ⟨v5, rfl⟩ : ∃ z, z = s := ⟨s, rfl⟩
  change cX8_canBoard_34 N R I b0 v1 v5 = some x at hF
  unfold cX8_canBoard_34 at hF
  show AW _ 34 [(0, .ref (G.1 + b0)), (1, .int v1), (5, .int v5)] [] I R
  refine aw_iload dX8_canBoard_34 2 rfl ?_
  refine aw_bipush (v := (70 : Int32)) dX8_canBoard_36 (by decide) ?_
  refine aw_icmp_ge (tgt := 69) dX8_canBoard_38 (by decide) (fun c2 => ?_) (fun c2 => ?_)
  · rw [if_pos c2] at hF
    cases hF
    have hE := he _ rfl
    subst hE
    exact aw_sub [] rfl hx
  · rw [if_neg c2] at hF
    refine aw_aload_n dX8_canBoard_41 0 rfl rfl ?_
    obtain ⟨r3, er3, hF⟩ := qbind hF
    have kr3 : qok R r3 10 := hW.get hb0 er3 rfl
    refine aw_getr fl_X8_82 (by decide) fg_X8_30 hb0 er3 rfl dX8_canBoard_42 ?_
    refine aw_iload dX8_canBoard_45 2 rfl ?_
    obtain ⟨x4, ex4, hF⟩ := qbind hF
    refine aw_zaldq kr3 ex4 dX8_canBoard_47 ?_
    refine aw_if_eq (tgt := 63) dX8_canBoard_48 (by decide) (fun c5 => ?_) (fun c5 => ?_)
    · rw [if_pos c5] at hF
      refine aw_iinc (q := 2) (v := (v5 + 1)) (lv' := [(5, .int (v5 + 1)), (0, .ref (G.1 + b0)), (1, .int v1)]) dX8_canBoard_63 rfl rfl (Nat.le_of_ble_eq_true rfl) rfl ?_
      refine aw_goto (tgt := 34) dX8_canBoard_66 (by decide) ?_
      cases hF
      exact aw_sub [1, 2, 0] rfl (hc (v5 + 1) rfl)
    · rw [if_neg c5] at hF
      refine aw_aload_n dX8_canBoard_51 0 rfl rfl ?_
      refine aw_iload dX8_canBoard_52 2 rfl ?_
      refine aw_iload_n dX8_canBoard_54 1 rfl rfl ?_
      obtain ⟨y6, ey6, hF⟩ := qbind hF
      refine aw_callVi (As := [.int v5, .int v1]) (sX8_canChange hW hb0 ey6) cl_X8_182 rfl (qroomL (by decide) (by decide)) rfl hb0 (Nat.le_of_ble_eq_true rfl) dX8_canBoard_55 rfl ?_
      refine aw_if_eq (tgt := 63) dX8_canBoard_58 (by decide) (fun c7 => ?_) (fun c7 => ?_)
      · rw [if_pos c7] at hF
        refine aw_iinc (q := 2) (v := (v5 + 1)) (lv' := [(5, .int (v5 + 1)), (0, .ref (G.1 + b0)), (1, .int v1)]) dX8_canBoard_63 rfl rfl (Nat.le_of_ble_eq_true rfl) rfl ?_
        refine aw_goto (tgt := 34) dX8_canBoard_66 (by decide) ?_
        cases hF
        exact aw_sub [1, 2, 0] rfl (hc (v5 + 1) rfl)
      · rw [if_neg c7] at hF
        refine aw_iconst (v := (1 : Int32)) dX8_canBoard_61 (by decide) ?_
        cases hF
        have hE := he _ rfl
        subst hE
        exact aw_zret rfl (by decide) dX8_canBoard_62 hx.1 rfl rfl
def fX8_canBoard (N : Nat) (R : qR) (I : qI) (a0 : Nat) (p1 : Int32) (p2 : Int32) (p3 : Int32) (p4 : Int32) : Option (Int32) :=
  if p2 = 0 then
    ((qloop (fun s => cX8_canBoard_34 N R I a0 p1 s) N (0 : Int32)).bind fun o8 =>
    qx o8 (fun e9 =>
      some (0 : Int32)) (fun q10 => some q10))
  else
    ((R.1 a0 5).bind fun r11 =>
    (qrd I R r11 p1).bind fun x12 =>
    if x12 = p3 then
      ((R.1 a0 7).bind fun r14 =>
      (qrd I R r14 p1).bind fun x15 =>
      if x15 < p4 then
        (some (0 : Int32))
      else
        (some (1 : Int32)))
    else
      (some (0 : Int32)))
set_option maxHeartbeats 4000000 in
set_option maxRecDepth 100000 in
theorem sX8_canBoard {l : Launch} {G : qG} {N : Nat} {R : qR} {I : qI} {a0 : Nat} {p1 : Int32} {p2 : Int32} {p3 : Int32} {p4 : Int32} {rv : Int32} (hW : qWT R) (ha0 : qok R a0 8) (hF : fX8_canBoard N R I a0 p1 p2 p3 p4 = some rv) : qMt l G mX8_canBoard 2 [.ref (G.1 + a0), .int p1, .int p2, .int p3, .int p4] I R (some (.int rv)) I R := by
  unfold fX8_canBoard at hF
  refine qMt_of (by decide) (Nat.le_of_ble_eq_true rfl) ⟨Nat.le_refl _, Nat.le_refl _⟩ ?_
  show AW _ 0 [(0, .ref (G.1 + a0)), (1, .int p1), (2, .int p2), (3, .int p3), (4, .int p4)] [] I R
  refine aw_iload_n dX8_canBoard_0 2 rfl rfl ?_
  refine aw_if_eq (tgt := 31) dX8_canBoard_1 (by decide) (fun c1 => ?_) (fun c1 => ?_)
  · rw [if_pos c1] at hF
    refine aw_iconst (v := (0 : Int32)) dX8_canBoard_31 (by decide) ?_
    refine aw_istore (lv' := [(5, .int (0 : Int32)), (0, .ref (G.1 + a0)), (1, .int p1), (2, .int p2), (3, .int p3), (4, .int p4)]) dX8_canBoard_32 (Nat.le_of_ble_eq_true rfl) rfl ?_
    obtain ⟨o8, eo8, hF⟩ := qbind hF
    refine aw_sub [1, 2, 0] rfl (tX8_canBoard_34 hW ha0 (o := o8) ?_ N (0 : Int32) eo8)
    cases o8 with
    | inl e9 =>
      replace hF := qxl hF
      show AW _ 69 [] [] I R
      refine aw_iconst (v := (0 : Int32)) dX8_canBoard_69 (by decide) ?_
      cases hF
      exact aw_zret rfl (by decide) dX8_canBoard_70 rfl rfl rfl
    | inr q10 =>
      replace hF := qxr hF
      cases hF
      exact ⟨rfl, trivial⟩
  · rw [if_neg c1] at hF
    refine aw_aload_n dX8_canBoard_4 0 rfl rfl ?_
    obtain ⟨r11, er11, hF⟩ := qbind hF
    have kr11 : qok R r11 9 := hW.get ha0 er11 rfl
    refine aw_getr fl_X8_20 (by decide) fg_X8_5 ha0 er11 rfl dX8_canBoard_5 ?_
    refine aw_iload_n dX8_canBoard_8 1 rfl rfl ?_
    obtain ⟨x12, ex12, hF⟩ := qbind hF
    refine aw_ialdq kr11 ex12 dX8_canBoard_9 ?_
    refine aw_iload_n dX8_canBoard_10 3 rfl rfl ?_
    refine aw_icmp_ne (tgt := 29) dX8_canBoard_11 (by decide) (fun c13 => ?_) (fun c13 => ?_)
    · rw [if_neg c13] at hF
      refine aw_iconst (v := (0 : Int32)) dX8_canBoard_29 (by decide) ?_
      cases hF
      exact aw_zret rfl (by decide) dX8_canBoard_30 rfl rfl rfl
    · rw [if_pos c13] at hF
      refine aw_aload_n dX8_canBoard_14 0 rfl rfl ?_
      obtain ⟨r14, er14, hF⟩ := qbind hF
      have kr14 : qok R r14 9 := hW.get ha0 er14 rfl
      refine aw_getr fl_X8_26 (by decide) fg_X8_7 ha0 er14 rfl dX8_canBoard_15 ?_
      refine aw_iload_n dX8_canBoard_18 1 rfl rfl ?_
      obtain ⟨x15, ex15, hF⟩ := qbind hF
      refine aw_ialdq kr14 ex15 dX8_canBoard_19 ?_
      refine aw_iload dX8_canBoard_20 4 rfl ?_
      refine aw_icmp_lt (tgt := 29) dX8_canBoard_22 (by decide) (fun c16 => ?_) (fun c16 => ?_)
      · rw [if_pos c16] at hF
        refine aw_iconst (v := (0 : Int32)) dX8_canBoard_29 (by decide) ?_
        cases hF
        exact aw_zret rfl (by decide) dX8_canBoard_30 rfl rfl rfl
      · rw [if_neg c16] at hF
        refine aw_iconst (v := (1 : Int32)) dX8_canBoard_25 (by decide) ?_
        refine aw_goto (tgt := 30) dX8_canBoard_26 (by decide) ?_
        cases hF
        exact aw_zret rfl (by decide) dX8_canBoard_30 rfl rfl rfl
def cX8_leavesAt_3 (N : Nat) (R : qR) (b0 : Nat) (v1 : Int32) (v2 : Int32) (v3 : Int32) (v4 : Int32) (v5 : Int32) (v6 : Int32) (I : qI) : Option ((Int32 × qI) ⊕ (qI)) :=
  if (70 : Int32) ≤ v6 then
    (some (.inr I))
  else
    ((R.1 b0 31).bind fun r2 =>
    (qwz I R r2 v6 (0 : Int32)).bind fun I3 =>
    some (.inl ((v6 + 1), I3)))
set_option maxHeartbeats 4000000 in
set_option maxRecDepth 100000 in
theorem tX8_leavesAt_3 {l : Launch} {G : qG} {N : Nat} {R : qR} {As : List Value} {rv : Option Value} {I1 : qI} {b0 : Nat} {v1 : Int32} {v2 : Int32} {v3 : Int32} {v4 : Int32} {v5 : Int32} (hW : qWT R) (hb0 : qok R b0 8) {o : qI} (hx : AW (Zm l G mX8_leavesAt 3 As R rv I1 R) 24 [(0, .ref (G.1 + b0)), (1, .int v1), (2, .int v2), (3, .int v3), (4, .int v4), (5, .int v5)] [] o R) : ∀ n s, qloop (fun s => cX8_leavesAt_3 N R b0 v1 v2 v3 v4 v5 s.1 s.2) n s = some o → (match s with | (v6, I) => AW (Zm l G mX8_leavesAt 3 As R rv I1 R) 3 [(0, .ref (G.1 + b0)), (1, .int v1), (2, .int v2), (3, .int v3), (4, .int v4), (5, .int v5), (6, .int v6)] [] I R) := by
  apply qloop_ind
  intro s x hF hc he
  obtain ⟨v6, I⟩ := s
  change cX8_leavesAt_3 N R b0 v1 v2 v3 v4 v5 v6 I = some x at hF
  unfold cX8_leavesAt_3 at hF
  show AW _ 3 [(0, .ref (G.1 + b0)), (1, .int v1), (2, .int v2), (3, .int v3), (4, .int v4), (5, .int v5), (6, .int v6)] [] I R
  refine aw_iload dX8_leavesAt_3 6 rfl ?_
  refine aw_bipush (v := (70 : Int32)) dX8_leavesAt_5 (by decide) ?_
  refine aw_icmp_ge (tgt := 24) dX8_leavesAt_7 (by decide) (fun c1 => ?_) (fun c1 => ?_)
  · rw [if_pos c1] at hF
    cases hF
    have hE := he _ rfl
    subst hE
    exact aw_sub [0, 1, 2, 3, 4, 5] rfl hx
  · rw [if_neg c1] at hF
    refine aw_aload_n dX8_leavesAt_10 0 rfl rfl ?_
    obtain ⟨r2, er2, hF⟩ := qbind hF
    have kr2 : qok R r2 10 := hW.get hb0 er2 rfl
    refine aw_getr fl_X8_85 (by decide) fg_X8_31 hb0 er2 rfl dX8_leavesAt_11 ?_
    refine aw_iload dX8_leavesAt_14 6 rfl ?_
    refine aw_iconst (v := (0 : Int32)) dX8_leavesAt_16 (by decide) ?_
    obtain ⟨I3, eI3, hF⟩ := qbind hF
    refine aw_zastq kr2 eI3 dX8_leavesAt_17 ?_
    refine aw_iinc (q := 6) (v := (v6 + 1)) (lv' := [(6, .int (v6 + 1)), (0, .ref (G.1 + b0)), (1, .int v1), (2, .int v2), (3, .int v3), (4, .int v4), (5, .int v5)]) dX8_leavesAt_18 rfl rfl (Nat.le_of_ble_eq_true rfl) rfl ?_
    refine aw_goto (tgt := 3) dX8_leavesAt_21 (by decide) ?_
    cases hF
    exact aw_sub [1, 2, 3, 4, 5, 6, 0] rfl (hc ((v6 + 1), I3) rfl)
def cX8_leavesAt_33 (N : Nat) (R : qR) (b0 : Nat) (v1 : Int32) (v2 : Int32) (v3 : Int32) (v4 : Int32) (v5 : Int32) (v6 : Int32) (v7 : Int32) (v8 : Int32) (I : qI) : Option ((Int32 × Int32 × Int32 × qI) ⊕ (Int32 × qI)) :=
  (R.1 b0 4).bind fun r5 =>
  (qrd I R r5 v1).bind fun x6 =>
  if x6 ≤ v8 then
    (some (.inr (v7, I)))
  else
    (if v6 = 0 then
      ((fX8_canBoard N R I b0 (((7 : Int32) * v1) + v8) v2 v3 v4).bind fun y9 =>
      if y9 = 0 then
        (some (.inl ((0 : Int32), v7, (v8 + 1), I)))
      else
        (some (.inl ((1 : Int32), v7, (v8 + 1), I))))
    else
      ((R.1 b0 24).bind fun r11 =>
      (qrd I R r11 (((70 : Int32) * v5) + (((7 : Int32) * v1) + v8))).bind fun x12 =>
      if x12 = 0 then
        (some (.inl ((1 : Int32), v7, (v8 + 1), I)))
      else
        ((R.1 b0 31).bind fun r14 =>
        (qwz I R r14 (((7 : Int32) * v1) + v8) (1 : Int32)).bind fun I15 =>
        some (.inl ((1 : Int32), (1 : Int32), (v8 + 1), I15)))))
set_option maxHeartbeats 4000000 in
set_option maxRecDepth 100000 in
theorem tX8_leavesAt_33 {l : Launch} {G : qG} {N : Nat} {R : qR} {As : List Value} {rv : Option Value} {I1 : qI} {b0 : Nat} {v1 : Int32} {v2 : Int32} {v3 : Int32} {v4 : Int32} {v5 : Int32} (hW : qWT R) (hb0 : qok R b0 8) {o : Int32 × qI} (hx : match o with | (z0, z1) => AW (Zm l G mX8_leavesAt 3 As R rv I1 R) 116 [(7, .int z0)] [] z1 R) : ∀ n s, qloop (fun s => cX8_leavesAt_33 N R b0 v1 v2 v3 v4 v5 s.1 s.2.1 s.2.2.1 s.2.2.2) n s = some o → (match s with | (v6, v7, v8, I) => AW (Zm l G mX8_leavesAt 3 As R rv I1 R) 33 [(0, .ref (G.1 + b0)), (1, .int v1), (2, .int v2), (3, .int v3), (4, .int v4), (5, .int v5), (6, .int v6), (7, .int v7), (8, .int v8)] [] I R) := by
  apply qloop_ind
  intro s x hF hc he
  obtain ⟨v6, v7, v8, I⟩ := s
  change cX8_leavesAt_33 N R b0 v1 v2 v3 v4 v5 v6 v7 v8 I = some x at hF
  unfold cX8_leavesAt_33 at hF
  show AW _ 33 [(0, .ref (G.1 + b0)), (1, .int v1), (2, .int v2), (3, .int v3), (4, .int v4), (5, .int v5), (6, .int v6), (7, .int v7), (8, .int v8)] [] I R
  refine aw_iload dX8_leavesAt_33 8 rfl ?_
  refine aw_aload_n dX8_leavesAt_35 0 rfl rfl ?_
  obtain ⟨r5, er5, hF⟩ := qbind hF
  have kr5 : qok R r5 9 := hW.get hb0 er5 rfl
  refine aw_getr fl_X8_17 (by decide) fg_X8_4 hb0 er5 rfl dX8_leavesAt_36 ?_
  refine aw_iload_n dX8_leavesAt_39 1 rfl rfl ?_
  obtain ⟨x6, ex6, hF⟩ := qbind hF
  refine aw_ialdq kr5 ex6 dX8_leavesAt_40 ?_
  refine aw_icmp_ge (tgt := 116) dX8_leavesAt_41 (by decide) (fun c7 => ?_) (fun c7 => ?_)
  · rw [if_pos c7] at hF
    cases hF
    have hE := he _ rfl
    subst hE
    exact aw_sub [7] rfl hx
  · rw [if_neg c7] at hF
    refine aw_bipush (v := (7 : Int32)) dX8_leavesAt_44 (by decide) ?_
    refine aw_iload_n dX8_leavesAt_46 1 rfl rfl ?_
    refine aw_imul dX8_leavesAt_47 ?_
    refine aw_iload dX8_leavesAt_48 8 rfl ?_
    refine aw_iadd dX8_leavesAt_50 ?_
    refine aw_istore (lv' := [(9, .int (((7 : Int32) * v1) + v8)), (0, .ref (G.1 + b0)), (1, .int v1), (2, .int v2), (3, .int v3), (4, .int v4), (5, .int v5), (6, .int v6), (7, .int v7), (8, .int v8)]) dX8_leavesAt_51 (Nat.le_of_ble_eq_true rfl) rfl ?_
    refine aw_iload dX8_leavesAt_53 7 rfl ?_
    refine aw_if_eq (tgt := 85) dX8_leavesAt_55 (by decide) (fun c8 => ?_) (fun c8 => ?_)
    · rw [if_pos c8] at hF
      refine aw_iload dX8_leavesAt_85 7 rfl ?_
      refine aw_if_ne (tgt := 103) dX8_leavesAt_87 (by decide) (fun c => absurd c8 c) (fun c => ?_)
      refine aw_aload_n dX8_leavesAt_90 1 rfl rfl ?_
      refine aw_iload dX8_leavesAt_91 0 rfl ?_
      refine aw_iload_n dX8_leavesAt_93 3 rfl rfl ?_
      refine aw_iload_n dX8_leavesAt_94 4 rfl rfl ?_
      refine aw_iload dX8_leavesAt_95 5 rfl ?_
      obtain ⟨y9, ey9, hF⟩ := qbind hF
      refine aw_callVi (As := [.int (((7 : Int32) * v1) + v8), .int v2, .int v3, .int v4]) (sX8_canBoard hW hb0 ey9) cl_X8_196 rfl (qroomL (by decide) (by decide)) rfl hb0 (Nat.le_of_ble_eq_true rfl) dX8_leavesAt_97 rfl ?_
      refine aw_if_eq (tgt := 107) dX8_leavesAt_100 (by decide) (fun c10 => ?_) (fun c10 => ?_)
      · rw [if_pos c10] at hF
        refine aw_iconst (v := (0 : Int32)) dX8_leavesAt_107 (by decide) ?_
        refine aw_istore (lv' := [(6, .int (0 : Int32)), (9, .int (((7 : Int32) * v1) + v8)), (0, .ref (G.1 + b0)), (1, .int v1), (2, .int v2), (3, .int v3), (4, .int v4), (5, .int v5), (7, .int v7), (8, .int v8)]) dX8_leavesAt_108 (Nat.le_of_ble_eq_true rfl) rfl ?_
        refine aw_iinc (q := 9) (v := (v8 + 1)) (lv' := [(8, .int (v8 + 1)), (6, .int (0 : Int32)), (9, .int (((7 : Int32) * v1) + v8)), (0, .ref (G.1 + b0)), (1, .int v1), (2, .int v2), (3, .int v3), (4, .int v4), (5, .int v5), (7, .int v7)]) dX8_leavesAt_110 rfl rfl (Nat.le_of_ble_eq_true rfl) rfl ?_
        refine aw_goto (tgt := 33) dX8_leavesAt_113 (by decide) ?_
        cases hF
        exact aw_sub [3, 4, 5, 6, 7, 8, 1, 9, 0] rfl (hc ((0 : Int32), v7, (v8 + 1), I) rfl)
      · rw [if_neg c10] at hF
        refine aw_iconst (v := (1 : Int32)) dX8_leavesAt_103 (by decide) ?_
        refine aw_goto (tgt := 108) dX8_leavesAt_104 (by decide) ?_
        refine aw_istore (lv' := [(6, .int (1 : Int32)), (9, .int (((7 : Int32) * v1) + v8)), (0, .ref (G.1 + b0)), (1, .int v1), (2, .int v2), (3, .int v3), (4, .int v4), (5, .int v5), (7, .int v7), (8, .int v8)]) dX8_leavesAt_108 (Nat.le_of_ble_eq_true rfl) rfl ?_
        refine aw_iinc (q := 9) (v := (v8 + 1)) (lv' := [(8, .int (v8 + 1)), (6, .int (1 : Int32)), (9, .int (((7 : Int32) * v1) + v8)), (0, .ref (G.1 + b0)), (1, .int v1), (2, .int v2), (3, .int v3), (4, .int v4), (5, .int v5), (7, .int v7)]) dX8_leavesAt_110 rfl rfl (Nat.le_of_ble_eq_true rfl) rfl ?_
        refine aw_goto (tgt := 33) dX8_leavesAt_113 (by decide) ?_
        cases hF
        exact aw_sub [3, 4, 5, 6, 7, 8, 1, 9, 0] rfl (hc ((1 : Int32), v7, (v8 + 1), I) rfl)
    · rw [if_neg c8] at hF
      refine aw_aload_n dX8_leavesAt_58 1 rfl rfl ?_
      obtain ⟨r11, er11, hF⟩ := qbind hF
      have kr11 : qok R r11 10 := hW.get hb0 er11 rfl
      refine aw_getr fl_X8_70 (by decide) fg_X8_24 hb0 er11 rfl dX8_leavesAt_59 ?_
      refine aw_bipush (v := (70 : Int32)) dX8_leavesAt_62 (by decide) ?_
      refine aw_iload dX8_leavesAt_64 6 rfl ?_
      refine aw_imul dX8_leavesAt_66 ?_
      refine aw_iload dX8_leavesAt_67 0 rfl ?_
      refine aw_iadd dX8_leavesAt_69 ?_
      obtain ⟨x12, ex12, hF⟩ := qbind hF
      refine aw_zaldq kr11 ex12 dX8_leavesAt_70 ?_
      refine aw_if_eq (tgt := 85) dX8_leavesAt_71 (by decide) (fun c13 => ?_) (fun c13 => ?_)
      · rw [if_pos c13] at hF
        refine aw_iload dX8_leavesAt_85 7 rfl ?_
        refine aw_if_ne (tgt := 103) dX8_leavesAt_87 (by decide) (fun c => ?_) (fun c => absurd c c8)
        refine aw_iconst (v := (1 : Int32)) dX8_leavesAt_103 (by decide) ?_
        refine aw_goto (tgt := 108) dX8_leavesAt_104 (by decide) ?_
        refine aw_istore (lv' := [(6, .int (1 : Int32)), (9, .int (((7 : Int32) * v1) + v8)), (0, .ref (G.1 + b0)), (1, .int v1), (2, .int v2), (3, .int v3), (4, .int v4), (5, .int v5), (7, .int v7), (8, .int v8)]) dX8_leavesAt_108 (Nat.le_of_ble_eq_true rfl) rfl ?_
        refine aw_iinc (q := 9) (v := (v8 + 1)) (lv' := [(8, .int (v8 + 1)), (6, .int (1 : Int32)), (9, .int (((7 : Int32) * v1) + v8)), (0, .ref (G.1 + b0)), (1, .int v1), (2, .int v2), (3, .int v3), (4, .int v4), (5, .int v5), (7, .int v7)]) dX8_leavesAt_110 rfl rfl (Nat.le_of_ble_eq_true rfl) rfl ?_
        refine aw_goto (tgt := 33) dX8_leavesAt_113 (by decide) ?_
        cases hF
        exact aw_sub [3, 4, 5, 6, 7, 8, 1, 9, 0] rfl (hc ((1 : Int32), v7, (v8 + 1), I) rfl)
      · rw [if_neg c13] at hF
        refine aw_aload_n dX8_leavesAt_74 1 rfl rfl ?_
        obtain ⟨r14, er14, hF⟩ := qbind hF
        have kr14 : qok R r14 10 := hW.get hb0 er14 rfl
        refine aw_getr fl_X8_85 (by decide) fg_X8_31 hb0 er14 rfl dX8_leavesAt_75 ?_
        refine aw_iload dX8_leavesAt_78 0 rfl ?_
        refine aw_iconst (v := (1 : Int32)) dX8_leavesAt_80 (by decide) ?_
        obtain ⟨I15, eI15, hF⟩ := qbind hF
        refine aw_zastq kr14 eI15 dX8_leavesAt_81 ?_
        refine aw_iconst (v := (1 : Int32)) dX8_leavesAt_82 (by decide) ?_
        refine aw_istore (lv' := [(7, .int (1 : Int32)), (9, .int (((7 : Int32) * v1) + v8)), (0, .ref (G.1 + b0)), (1, .int v1), (2, .int v2), (3, .int v3), (4, .int v4), (5, .int v5), (6, .int v6), (8, .int v8)]) dX8_leavesAt_83 (Nat.le_of_ble_eq_true rfl) rfl ?_
        refine aw_iload dX8_leavesAt_85 8 rfl ?_
        refine aw_if_ne (tgt := 103) dX8_leavesAt_87 (by decide) (fun c => ?_) (fun c => absurd c c8)
        refine aw_iconst (v := (1 : Int32)) dX8_leavesAt_103 (by decide) ?_
        refine aw_goto (tgt := 108) dX8_leavesAt_104 (by decide) ?_
        refine aw_istore (lv' := [(6, .int (1 : Int32)), (7, .int (1 : Int32)), (9, .int (((7 : Int32) * v1) + v8)), (0, .ref (G.1 + b0)), (1, .int v1), (2, .int v2), (3, .int v3), (4, .int v4), (5, .int v5), (8, .int v8)]) dX8_leavesAt_108 (Nat.le_of_ble_eq_true rfl) rfl ?_
        refine aw_iinc (q := 9) (v := (v8 + 1)) (lv' := [(8, .int (v8 + 1)), (6, .int (1 : Int32)), (7, .int (1 : Int32)), (9, .int (((7 : Int32) * v1) + v8)), (0, .ref (G.1 + b0)), (1, .int v1), (2, .int v2), (3, .int v3), (4, .int v4), (5, .int v5)]) dX8_leavesAt_110 rfl rfl (Nat.le_of_ble_eq_true rfl) rfl ?_
        refine aw_goto (tgt := 33) dX8_leavesAt_113 (by decide) ?_
        cases hF
        exact aw_sub [4, 5, 6, 7, 8, 9, 1, 2, 0] rfl (hc ((1 : Int32), (1 : Int32), (v8 + 1), I15) rfl)
def fX8_leavesAt (N : Nat) (R : qR) (I : qI) (a0 : Nat) (p1 : Int32) (p2 : Int32) (p3 : Int32) (p4 : Int32) (p5 : Int32) : Option (Int32 × qI) :=
  (qloop (fun s => cX8_leavesAt_3 N R a0 p1 p2 p3 p4 p5 s.1 s.2) N ((0 : Int32), I)).bind fun o4 =>
  (qloop (fun s => cX8_leavesAt_33 N R a0 p1 p2 p3 p4 p5 s.1 s.2.1 s.2.2.1 s.2.2.2) N ((0 : Int32), (0 : Int32), (0 : Int32), o4)).bind fun o16 =>
  if vp_nar .boolean o16.1 = o16.1 then some (o16.1, o16.2) else none
set_option maxHeartbeats 4000000 in
set_option maxRecDepth 100000 in
theorem sX8_leavesAt {l : Launch} {G : qG} {N : Nat} {R : qR} {I : qI} {a0 : Nat} {p1 : Int32} {p2 : Int32} {p3 : Int32} {p4 : Int32} {p5 : Int32} {rv : Int32} {rI : qI} (hW : qWT R) (ha0 : qok R a0 8) (hF : fX8_leavesAt N R I a0 p1 p2 p3 p4 p5 = some (rv, rI)) : qMt l G mX8_leavesAt 3 [.ref (G.1 + a0), .int p1, .int p2, .int p3, .int p4, .int p5] I R (some (.int rv)) rI R := by
  unfold fX8_leavesAt at hF
  refine qMt_of (by decide) (Nat.le_of_ble_eq_true rfl) ⟨Nat.le_refl _, Nat.le_refl _⟩ ?_
  show AW _ 0 [(0, .ref (G.1 + a0)), (1, .int p1), (2, .int p2), (3, .int p3), (4, .int p4), (5, .int p5)] [] I R
  refine aw_iconst (v := (0 : Int32)) dX8_leavesAt_0 (by decide) ?_
  refine aw_istore (lv' := [(6, .int (0 : Int32)), (0, .ref (G.1 + a0)), (1, .int p1), (2, .int p2), (3, .int p3), (4, .int p4), (5, .int p5)]) dX8_leavesAt_1 (Nat.le_of_ble_eq_true rfl) rfl ?_
  obtain ⟨o4, eo4, hF⟩ := qbind hF
  refine aw_sub [1, 2, 3, 4, 5, 6, 0] rfl (tX8_leavesAt_3 hW ha0 (o := o4) ?_ N ((0 : Int32), I) eo4)
  show AW _ 24 [(0, .ref (G.1 + a0)), (1, .int p1), (2, .int p2), (3, .int p3), (4, .int p4), (5, .int p5)] [] o4 R
  refine aw_iconst (v := (0 : Int32)) dX8_leavesAt_24 (by decide) ?_
  refine aw_istore (lv' := [(6, .int (0 : Int32)), (0, .ref (G.1 + a0)), (1, .int p1), (2, .int p2), (3, .int p3), (4, .int p4), (5, .int p5)]) dX8_leavesAt_25 (Nat.le_of_ble_eq_true rfl) rfl ?_
  refine aw_iconst (v := (0 : Int32)) dX8_leavesAt_27 (by decide) ?_
  refine aw_istore (lv' := [(7, .int (0 : Int32)), (6, .int (0 : Int32)), (0, .ref (G.1 + a0)), (1, .int p1), (2, .int p2), (3, .int p3), (4, .int p4), (5, .int p5)]) dX8_leavesAt_28 (Nat.le_of_ble_eq_true rfl) rfl ?_
  refine aw_iconst (v := (0 : Int32)) dX8_leavesAt_30 (by decide) ?_
  refine aw_istore (lv' := [(8, .int (0 : Int32)), (7, .int (0 : Int32)), (6, .int (0 : Int32)), (0, .ref (G.1 + a0)), (1, .int p1), (2, .int p2), (3, .int p3), (4, .int p4), (5, .int p5)]) dX8_leavesAt_31 (Nat.le_of_ble_eq_true rfl) rfl ?_
  obtain ⟨o16, eo16, hF⟩ := qbind hF
  refine aw_sub [3, 4, 5, 6, 7, 8, 2, 1, 0] rfl (tX8_leavesAt_33 hW ha0 (o := o16) ?_ N ((0 : Int32), (0 : Int32), (0 : Int32), o4) eo16)
  show AW _ 116 [(7, .int o16.1)] [] o16.2 R
  refine aw_iload dX8_leavesAt_116 0 rfl ?_
  obtain ⟨hz, hF⟩ := qite hF
  cases hF
  exact aw_zret rfl (qnar hz) dX8_leavesAt_118 rfl rfl rfl
