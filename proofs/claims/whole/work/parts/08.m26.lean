def cX8_finds_76 (N : Nat) (R : qR) (b0 : Nat) (v1 : Int32) (v2 : Int32) (v3 : Int32) (v4 : Int32)  (I : qI) : Option ((qI) ⊕ (qI)) :=
  (fX8_firstTrain N R I b0 (1 : Int32) v1 v3 v4 ((I b0 25) - (1 : Int32))).bind fun y15 =>
  if y15.1 = (-1 : Int32) then
    (qlet (qup y15.2 b0 25 ((y15.2 b0 25) + (1 : Int32))) fun I17 =>
    some (.inl I17))
  else
    (some (.inr y15.2))
set_option maxHeartbeats 4000000 in
set_option maxRecDepth 100000 in
theorem tX8_finds_76 {l : Launch} {G : qG} {N : Nat} {R : qR} {As : List Value} {rv : Option Value} {I1 : qI} {b0 : Nat} {v1 : Int32} {v2 : Int32} {v3 : Int32} {v4 : Int32} (hW : qWT R) (hb0 : qok R b0 8) {o : qI} (hx : AW (Zm l G mX8_finds 5 As R rv I1 R) 108 [(0, .ref (G.1 + b0)), (1, .int v1), (2, .int v2), (3, .int v3), (4, .int v4)] [] o R) : ∀ n s, qloop (fun s => cX8_finds_76 N R b0 v1 v2 v3 v4 s) n s = some o → AW (Zm l G mX8_finds 5 As R rv I1 R) 76 [(0, .ref (G.1 + b0)), (1, .int v1), (2, .int v2), (3, .int v3), (4, .int v4)] [] s R := by
  apply qloop_ind
  intro s x hF hc he
  obtain ⟨I, rfl⟩ : ∃ z, z = s := ⟨s, rfl⟩
  change cX8_finds_76 N R b0 v1 v2 v3 v4 I = some x at hF
  unfold cX8_finds_76 at hF
  show AW _ 76 [(0, .ref (G.1 + b0)), (1, .int v1), (2, .int v2), (3, .int v3), (4, .int v4)] [] I R
  refine aw_aload_n dX8_finds_76 0 rfl rfl ?_
  refine aw_iconst (v := (1 : Int32)) dX8_finds_77 (by decide) ?_
  refine aw_iload_n dX8_finds_78 1 rfl rfl ?_
  refine aw_iload_n dX8_finds_79 3 rfl rfl ?_
  refine aw_iload dX8_finds_80 4 rfl ?_
  refine aw_aload_n dX8_finds_82 0 rfl rfl ?_
  refine aw_geti fl_X8_211 (by decide) fg_X8_25 hb0 rfl dX8_finds_83 ?_
  refine aw_iconst (v := (1 : Int32)) dX8_finds_86 (by decide) ?_
  refine aw_isub dX8_finds_87 ?_
  obtain ⟨y15, ey15, hF⟩ := qbind hF
  refine aw_callVi (As := [.int (1 : Int32), .int v1, .int v3, .int v4, .int ((I b0 25) - (1 : Int32))]) (sX8_firstTrain hW hb0 ey15) cl_X8_214 rfl (qroomL (by decide) (by decide)) rfl hb0 (Nat.le_of_ble_eq_true rfl) dX8_finds_88 rfl ?_
  refine aw_iconst (v := (-1 : Int32)) dX8_finds_91 (by decide) ?_
  refine aw_icmp_ne (tgt := 108) dX8_finds_92 (by decide) (fun c16 => ?_) (fun c16 => ?_)
  · rw [if_neg c16] at hF
    cases hF
    have hE := he _ rfl
    subst hE
    exact aw_sub [0, 1, 2, 3, 4] rfl hx
  · rw [if_pos c16] at hF
    refine aw_aload_n dX8_finds_95 0 rfl rfl ?_
    refine aw_aload_n dX8_finds_96 0 rfl rfl ?_
    refine aw_geti fl_X8_211 (by decide) fg_X8_25 hb0 rfl dX8_finds_97 ?_
    refine aw_iconst (v := (1 : Int32)) dX8_finds_100 (by decide) ?_
    refine aw_iadd dX8_finds_101 ?_
    obtain ⟨I17, eI17, hF⟩ := qletE hF
    refine aw_putiq fl_X8_211 (by decide) fs_X8_25 fn_X8_25 ft_X8_25 hb0 eI17 rfl dX8_finds_102 ?_
    refine aw_goto (tgt := 76) dX8_finds_105 (by decide) ?_
    cases hF
    exact aw_sub [0, 1, 2, 3, 4] rfl (hc I17 rfl)
def cX8_finds_157 (N : Nat) (R : qR) (b0 : Nat) (v1 : Int32) (v2 : Int32) (v3 : Int32) (v4 : Int32) (v5 : Int32) (v6 : Int32) (I : qI) : Option ((Int32 × qI) ⊕ (qI)) :=
  if (70 : Int32) ≤ v6 then
    (some (.inr I))
  else
    ((R.1 b0 30).bind fun r25 =>
    (R.1 b0 31).bind fun r26 =>
    (qrd I R r26 v6).bind fun x27 =>
    (qwz I R r25 v6 x27).bind fun I28 =>
    some (.inl ((v6 + 1), I28)))
set_option maxHeartbeats 4000000 in
set_option maxRecDepth 100000 in
theorem tX8_finds_157 {l : Launch} {G : qG} {N : Nat} {R : qR} {As : List Value} {rv : Option Value} {I1 : qI} {b0 : Nat} {v1 : Int32} {v2 : Int32} {v3 : Int32} {v4 : Int32} {v5 : Int32} (hW : qWT R) (hb0 : qok R b0 8) {o : qI} (hx : AW (Zm l G mX8_finds 5 As R rv I1 R) 184 [(0, .ref (G.1 + b0)), (1, .int v1), (2, .int v2), (3, .int v3), (4, .int v4), (5, .int v5)] [] o R) : ∀ n s, qloop (fun s => cX8_finds_157 N R b0 v1 v2 v3 v4 v5 s.1 s.2) n s = some o → (match s with | (v6, I) => AW (Zm l G mX8_finds 5 As R rv I1 R) 157 [(0, .ref (G.1 + b0)), (1, .int v1), (2, .int v2), (3, .int v3), (4, .int v4), (5, .int v5), (6, .int v6)] [] I R) := by
  apply qloop_ind
  intro s x hF hc he
  obtain ⟨v6, I⟩ := s
  change cX8_finds_157 N R b0 v1 v2 v3 v4 v5 v6 I = some x at hF
  unfold cX8_finds_157 at hF
  show AW _ 157 [(0, .ref (G.1 + b0)), (1, .int v1), (2, .int v2), (3, .int v3), (4, .int v4), (5, .int v5), (6, .int v6)] [] I R
  refine aw_iload dX8_finds_157 6 rfl ?_
  refine aw_bipush (v := (70 : Int32)) dX8_finds_159 (by decide) ?_
  refine aw_icmp_ge (tgt := 184) dX8_finds_161 (by decide) (fun c24 => ?_) (fun c24 => ?_)
  · rw [if_pos c24] at hF
    cases hF
    have hE := he _ rfl
    subst hE
    exact aw_sub [0, 1, 2, 3, 4, 5] rfl hx
  · rw [if_neg c24] at hF
    refine aw_aload_n dX8_finds_164 0 rfl rfl ?_
    obtain ⟨r25, er25, hF⟩ := qbind hF
    have kr25 : qok R r25 10 := hW.get hb0 er25 rfl
    refine aw_getr fl_X8_82 (by decide) fg_X8_30 hb0 er25 rfl dX8_finds_165 ?_
    refine aw_iload dX8_finds_168 6 rfl ?_
    refine aw_aload_n dX8_finds_170 0 rfl rfl ?_
    obtain ⟨r26, er26, hF⟩ := qbind hF
    have kr26 : qok R r26 10 := hW.get hb0 er26 rfl
    refine aw_getr fl_X8_85 (by decide) fg_X8_31 hb0 er26 rfl dX8_finds_171 ?_
    refine aw_iload dX8_finds_174 6 rfl ?_
    obtain ⟨x27, ex27, hF⟩ := qbind hF
    refine aw_zaldq kr26 ex27 dX8_finds_176 ?_
    obtain ⟨I28, eI28, hF⟩ := qbind hF
    refine aw_zastq kr25 eI28 dX8_finds_177 ?_
    refine aw_iinc (q := 6) (v := (v6 + 1)) (lv' := [(6, .int (v6 + 1)), (0, .ref (G.1 + b0)), (1, .int v1), (2, .int v2), (3, .int v3), (4, .int v4), (5, .int v5)]) dX8_finds_178 rfl rfl (Nat.le_of_ble_eq_true rfl) rfl ?_
    refine aw_goto (tgt := 157) dX8_finds_181 (by decide) ?_
    cases hF
    exact aw_sub [1, 2, 3, 4, 5, 6, 0] rfl (hc ((v6 + 1), I28) rfl)
def cX8_finds_111 (N : Nat) (R : qR) (b0 : Nat) (v1 : Int32) (v2 : Int32) (v3 : Int32) (v4 : Int32) (v5 : Int32) (I : qI) : Option ((Int32 × qI) ⊕ (qI)) :=
  if (I b0 25) ≤ v5 then
    (some (.inr I))
  else
    ((R.1 b0 27).bind fun r20 =>
    if v5 = 0 then
      ((fX8_firstTrain N R I b0 (1 : Int32) v1 v3 v4 (((I b0 25) - (1 : Int32)) - v5)).bind fun y30 =>
      (qwr y30.2 R r20 v5 y30.1).bind fun I31 =>
      (qloop (fun s => cX8_finds_157 N R b0 v1 v2 v3 v4 v5 s.1 s.2) N ((0 : Int32), I31)).bind fun o32 =>
      some (.inl ((v5 + 1), o32)))
    else
      ((fX8_firstTrain N R I b0 (0 : Int32) v1 v3 v4 (((I b0 25) - (1 : Int32)) - v5)).bind fun y22 =>
      (qwr y22.2 R r20 v5 y22.1).bind fun I23 =>
      (qloop (fun s => cX8_finds_157 N R b0 v1 v2 v3 v4 v5 s.1 s.2) N ((0 : Int32), I23)).bind fun o29 =>
      some (.inl ((v5 + 1), o29))))
set_option maxHeartbeats 4000000 in
set_option maxRecDepth 100000 in
theorem tX8_finds_111 {l : Launch} {G : qG} {N : Nat} {R : qR} {As : List Value} {rv : Option Value} {I1 : qI} {b0 : Nat} {v1 : Int32} {v2 : Int32} {v3 : Int32} {v4 : Int32} (hW : qWT R) (hb0 : qok R b0 8) {o : qI} (hx : AW (Zm l G mX8_finds 5 As R rv I1 R) 190 [(0, .ref (G.1 + b0)), (1, .int v1), (2, .int v2), (4, .int v4)] [] o R) : ∀ n s, qloop (fun s => cX8_finds_111 N R b0 v1 v2 v3 v4 s.1 s.2) n s = some o → (match s with | (v5, I) => AW (Zm l G mX8_finds 5 As R rv I1 R) 111 [(0, .ref (G.1 + b0)), (1, .int v1), (2, .int v2), (3, .int v3), (4, .int v4), (5, .int v5)] [] I R) := by
  apply qloop_ind
  intro s x hF hc he
  obtain ⟨v5, I⟩ := s
  change cX8_finds_111 N R b0 v1 v2 v3 v4 v5 I = some x at hF
  unfold cX8_finds_111 at hF
  show AW _ 111 [(0, .ref (G.1 + b0)), (1, .int v1), (2, .int v2), (3, .int v3), (4, .int v4), (5, .int v5)] [] I R
  refine aw_iload dX8_finds_111 5 rfl ?_
  refine aw_aload_n dX8_finds_113 0 rfl rfl ?_
  refine aw_geti fl_X8_211 (by decide) fg_X8_25 hb0 rfl dX8_finds_114 ?_
  refine aw_icmp_ge (tgt := 190) dX8_finds_117 (by decide) (fun c19 => ?_) (fun c19 => ?_)
  · rw [if_pos c19] at hF
    cases hF
    have hE := he _ rfl
    subst hE
    exact aw_sub [0, 1, 2, 4] rfl hx
  · rw [if_neg c19] at hF
    refine aw_aload_n dX8_finds_120 0 rfl rfl ?_
    obtain ⟨r20, er20, hF⟩ := qbind hF
    have kr20 : qok R r20 9 := hW.get hb0 er20 rfl
    refine aw_getr fl_X8_73 (by decide) fg_X8_27 hb0 er20 rfl dX8_finds_121 ?_
    refine aw_iload dX8_finds_124 5 rfl ?_
    refine aw_aload_n dX8_finds_126 0 rfl rfl ?_
    refine aw_iload dX8_finds_127 5 rfl ?_
    refine aw_if_ne (tgt := 136) dX8_finds_129 (by decide) (fun c21 => ?_) (fun c21 => ?_)
    · rw [if_neg c21] at hF
      refine aw_iconst (v := (0 : Int32)) dX8_finds_136 (by decide) ?_
      refine aw_iload_n dX8_finds_137 1 rfl rfl ?_
      refine aw_iload_n dX8_finds_138 3 rfl rfl ?_
      refine aw_iload dX8_finds_139 4 rfl ?_
      refine aw_aload_n dX8_finds_141 0 rfl rfl ?_
      refine aw_geti fl_X8_211 (by decide) fg_X8_25 hb0 rfl dX8_finds_142 ?_
      refine aw_iconst (v := (1 : Int32)) dX8_finds_145 (by decide) ?_
      refine aw_isub dX8_finds_146 ?_
      refine aw_iload dX8_finds_147 5 rfl ?_
      refine aw_isub dX8_finds_149 ?_
      obtain ⟨y22, ey22, hF⟩ := qbind hF
      refine aw_callVi (As := [.int (0 : Int32), .int v1, .int v3, .int v4, .int (((I b0 25) - (1 : Int32)) - v5)]) (sX8_firstTrain hW hb0 ey22) cl_X8_214 rfl (qroomL (by decide) (by decide)) rfl hb0 (Nat.le_of_ble_eq_true rfl) dX8_finds_150 rfl ?_
      obtain ⟨I23, eI23, hF⟩ := qbind hF
      refine aw_iastq kr20 eI23 dX8_finds_153 ?_
      refine aw_iconst (v := (0 : Int32)) dX8_finds_154 (by decide) ?_
      refine aw_istore (lv' := [(6, .int (0 : Int32)), (0, .ref (G.1 + b0)), (1, .int v1), (2, .int v2), (3, .int v3), (4, .int v4), (5, .int v5)]) dX8_finds_155 (Nat.le_of_ble_eq_true rfl) rfl ?_
      obtain ⟨o29, eo29, hF⟩ := qbind hF
      refine aw_sub [1, 2, 3, 4, 5, 6, 0] rfl (tX8_finds_157 hW hb0 (o := o29) ?_ N ((0 : Int32), I23) eo29)
      show AW _ 184 [(0, .ref (G.1 + b0)), (1, .int v1), (2, .int v2), (3, .int v3), (4, .int v4), (5, .int v5)] [] o29 R
      refine aw_iinc (q := 5) (v := (v5 + 1)) (lv' := [(5, .int (v5 + 1)), (0, .ref (G.1 + b0)), (1, .int v1), (2, .int v2), (3, .int v3), (4, .int v4)]) dX8_finds_184 rfl rfl (Nat.le_of_ble_eq_true rfl) rfl ?_
      refine aw_goto (tgt := 111) dX8_finds_187 (by decide) ?_
      cases hF
      exact aw_sub [1, 2, 3, 4, 5, 0] rfl (hc ((v5 + 1), o29) rfl)
    · rw [if_pos c21] at hF
      refine aw_iconst (v := (1 : Int32)) dX8_finds_132 (by decide) ?_
      refine aw_goto (tgt := 137) dX8_finds_133 (by decide) ?_
      refine aw_iload_n dX8_finds_137 1 rfl rfl ?_
      refine aw_iload_n dX8_finds_138 3 rfl rfl ?_
      refine aw_iload dX8_finds_139 4 rfl ?_
      refine aw_aload_n dX8_finds_141 0 rfl rfl ?_
      refine aw_geti fl_X8_211 (by decide) fg_X8_25 hb0 rfl dX8_finds_142 ?_
      refine aw_iconst (v := (1 : Int32)) dX8_finds_145 (by decide) ?_
      refine aw_isub dX8_finds_146 ?_
      refine aw_iload dX8_finds_147 5 rfl ?_
      refine aw_isub dX8_finds_149 ?_
      obtain ⟨y30, ey30, hF⟩ := qbind hF
      refine aw_callVi (As := [.int (1 : Int32), .int v1, .int v3, .int v4, .int (((I b0 25) - (1 : Int32)) - v5)]) (sX8_firstTrain hW hb0 ey30) cl_X8_214 rfl (qroomL (by decide) (by decide)) rfl hb0 (Nat.le_of_ble_eq_true rfl) dX8_finds_150 rfl ?_
      obtain ⟨I31, eI31, hF⟩ := qbind hF
      refine aw_iastq kr20 eI31 dX8_finds_153 ?_
      refine aw_iconst (v := (0 : Int32)) dX8_finds_154 (by decide) ?_
      refine aw_istore (lv' := [(6, .int (0 : Int32)), (0, .ref (G.1 + b0)), (1, .int v1), (2, .int v2), (3, .int v3), (4, .int v4), (5, .int v5)]) dX8_finds_155 (Nat.le_of_ble_eq_true rfl) rfl ?_
      obtain ⟨o32, eo32, hF⟩ := qbind hF
      refine aw_sub [1, 2, 3, 4, 5, 6, 0] rfl (tX8_finds_157 hW hb0 (o := o32) ?_ N ((0 : Int32), I31) eo32)
      show AW _ 184 [(0, .ref (G.1 + b0)), (1, .int v1), (2, .int v2), (3, .int v3), (4, .int v4), (5, .int v5)] [] o32 R
      refine aw_iinc (q := 5) (v := (v5 + 1)) (lv' := [(5, .int (v5 + 1)), (0, .ref (G.1 + b0)), (1, .int v1), (2, .int v2), (3, .int v3), (4, .int v4)]) dX8_finds_184 rfl rfl (Nat.le_of_ble_eq_true rfl) rfl ?_
      refine aw_goto (tgt := 111) dX8_finds_187 (by decide) ?_
      cases hF
      exact aw_sub [1, 2, 3, 4, 5, 0] rfl (hc ((v5 + 1), o32) rfl)
def cX8_finds_220 (N : Nat) (R : qR) (b0 : Nat) (v1 : Int32) (v2 : Int32) (v4 : Int32) (v5 : Int32) (v6 : Int32) (v7 : Int32) (v8 : Int32) (v9 : Int32) (I : qI) : Option ((Int32 × Int32 × qI) ⊕ (Int32 × qI)) :=
  (R.1 b0 4).bind fun r37 =>
  (qrd I R r37 v7).bind fun x38 =>
  if x38 ≤ v9 then
    (some (.inr (v8, I)))
  else
    ((fX8_boardOf N R I b0 v7 v6 v5 v1 v4).bind fun y40 =>
    if v9 ≤ y40 then
      (some (.inl (v8, (v9 + 1), I)))
    else
      ((fX8_boardOf N R I b0 v7 v6 v5 v1 v4).bind fun y42 =>
      if y42 = (-1 : Int32) then
        (some (.inl (v8, (v9 + 1), I)))
      else
        ((fX8_restGoes N R I b0 (((7 : Int32) * v7) + v9) v6 v2).bind fun y44 =>
        if y44.1 = 0 then
          (some (.inl (v8, (v9 + 1), y44.2)))
        else
          (if v8 = (-1 : Int32) then
            (some (.inl ((((7 : Int32) * v7) + v9), (v9 + 1), y44.2)))
          else
            ((R.1 b0 5).bind fun r47 =>
            (qrd y44.2 R r47 (((7 : Int32) * v7) + v9)).bind fun x48 =>
            (qrd y44.2 R r47 v8).bind fun x49 =>
            if x49 ≤ x48 then
              (some (.inl (v8, (v9 + 1), y44.2)))
            else
              (some (.inl ((((7 : Int32) * v7) + v9), (v9 + 1), y44.2))))))))
set_option maxHeartbeats 4000000 in
set_option maxRecDepth 100000 in
theorem tX8_finds_220 {l : Launch} {G : qG} {N : Nat} {R : qR} {As : List Value} {rv : Option Value} {I1 : qI} {b0 : Nat} {v1 : Int32} {v2 : Int32} {v4 : Int32} {v5 : Int32} {v6 : Int32} {v7 : Int32} (hW : qWT R) (hb0 : qok R b0 8) {o : Int32 × qI} (hx : match o with | (z0, z1) => AW (Zm l G mX8_finds 5 As R rv I1 R) 325 [(0, .ref (G.1 + b0)), (1, .int v1), (2, .int v2), (4, .int v4), (5, .int v5), (6, .int v6), (7, .int v7), (8, .int z0)] [] z1 R) : ∀ n s, qloop (fun s => cX8_finds_220 N R b0 v1 v2 v4 v5 v6 v7 s.1 s.2.1 s.2.2) n s = some o → (match s with | (v8, v9, I) => AW (Zm l G mX8_finds 5 As R rv I1 R) 220 [(0, .ref (G.1 + b0)), (1, .int v1), (2, .int v2), (4, .int v4), (5, .int v5), (6, .int v6), (7, .int v7), (8, .int v8), (9, .int v9)] [] I R) := by
  apply qloop_ind
  intro s x hF hc he
  obtain ⟨v8, v9, I⟩ := s
  change cX8_finds_220 N R b0 v1 v2 v4 v5 v6 v7 v8 v9 I = some x at hF
  unfold cX8_finds_220 at hF
  show AW _ 220 [(0, .ref (G.1 + b0)), (1, .int v1), (2, .int v2), (4, .int v4), (5, .int v5), (6, .int v6), (7, .int v7), (8, .int v8), (9, .int v9)] [] I R
  refine aw_iload dX8_finds_220 8 rfl ?_
  refine aw_aload_n dX8_finds_222 0 rfl rfl ?_
  obtain ⟨r37, er37, hF⟩ := qbind hF
  have kr37 : qok R r37 9 := hW.get hb0 er37 rfl
  refine aw_getr fl_X8_17 (by decide) fg_X8_4 hb0 er37 rfl dX8_finds_223 ?_
  refine aw_iload dX8_finds_226 6 rfl ?_
  obtain ⟨x38, ex38, hF⟩ := qbind hF
  refine aw_ialdq kr37 ex38 dX8_finds_228 ?_
  refine aw_icmp_ge (tgt := 325) dX8_finds_229 (by decide) (fun c39 => ?_) (fun c39 => ?_)
  · rw [if_pos c39] at hF
    cases hF
    have hE := he _ rfl
    subst hE
    exact aw_sub [0, 1, 2, 3, 4, 5, 6, 7] rfl hx
  · rw [if_neg c39] at hF
    refine aw_bipush (v := (7 : Int32)) dX8_finds_232 (by decide) ?_
    refine aw_iload dX8_finds_234 6 rfl ?_
    refine aw_imul dX8_finds_236 ?_
    refine aw_iload dX8_finds_237 8 rfl ?_
    refine aw_iadd dX8_finds_239 ?_
    refine aw_istore (lv' := [(10, .int (((7 : Int32) * v7) + v9)), (0, .ref (G.1 + b0)), (1, .int v1), (2, .int v2), (4, .int v4), (5, .int v5), (6, .int v6), (7, .int v7), (8, .int v8), (9, .int v9)]) dX8_finds_240 (Nat.le_of_ble_eq_true rfl) rfl ?_
    refine aw_aload_n dX8_finds_242 1 rfl rfl ?_
    refine aw_iload dX8_finds_243 7 rfl ?_
    refine aw_iload dX8_finds_245 6 rfl ?_
    refine aw_iload dX8_finds_247 5 rfl ?_
    refine aw_iload_n dX8_finds_249 2 rfl rfl ?_
    refine aw_iload dX8_finds_250 4 rfl ?_
    obtain ⟨y40, ey40, hF⟩ := qbind hF
    refine aw_callVi (As := [.int v7, .int v6, .int v5, .int v1, .int v4]) (sX8_boardOf hW hb0 ey40) cl_X8_218 rfl (qroomL (by decide) (by decide)) rfl hb0 (Nat.le_of_ble_eq_true rfl) dX8_finds_252 rfl ?_
    refine aw_iload dX8_finds_255 9 rfl ?_
    refine aw_icmp_ge (tgt := 319) dX8_finds_257 (by decide) (fun c41 => ?_) (fun c41 => ?_)
    · rw [if_pos c41] at hF
      refine aw_iinc (q := 9) (v := (v9 + 1)) (lv' := [(9, .int (v9 + 1)), (10, .int (((7 : Int32) * v7) + v9)), (0, .ref (G.1 + b0)), (1, .int v1), (2, .int v2), (4, .int v4), (5, .int v5), (6, .int v6), (7, .int v7), (8, .int v8)]) dX8_finds_319 rfl rfl (Nat.le_of_ble_eq_true rfl) rfl ?_
      refine aw_goto (tgt := 220) dX8_finds_322 (by decide) ?_
      cases hF
      exact aw_sub [2, 3, 4, 5, 6, 7, 8, 9, 0] rfl (hc (v8, (v9 + 1), I) rfl)
    · rw [if_neg c41] at hF
      refine aw_aload_n dX8_finds_260 1 rfl rfl ?_
      refine aw_iload dX8_finds_261 7 rfl ?_
      refine aw_iload dX8_finds_263 6 rfl ?_
      refine aw_iload dX8_finds_265 5 rfl ?_
      refine aw_iload_n dX8_finds_267 2 rfl rfl ?_
      refine aw_iload dX8_finds_268 4 rfl ?_
      obtain ⟨y42, ey42, hF⟩ := qbind hF
      refine aw_callVi (As := [.int v7, .int v6, .int v5, .int v1, .int v4]) (sX8_boardOf hW hb0 ey42) cl_X8_218 rfl (qroomL (by decide) (by decide)) rfl hb0 (Nat.le_of_ble_eq_true rfl) dX8_finds_270 rfl ?_
      refine aw_iconst (v := (-1 : Int32)) dX8_finds_273 (by decide) ?_
      refine aw_icmp_eq (tgt := 319) dX8_finds_274 (by decide) (fun c43 => ?_) (fun c43 => ?_)
      · rw [if_pos c43] at hF
        refine aw_iinc (q := 9) (v := (v9 + 1)) (lv' := [(9, .int (v9 + 1)), (10, .int (((7 : Int32) * v7) + v9)), (0, .ref (G.1 + b0)), (1, .int v1), (2, .int v2), (4, .int v4), (5, .int v5), (6, .int v6), (7, .int v7), (8, .int v8)]) dX8_finds_319 rfl rfl (Nat.le_of_ble_eq_true rfl) rfl ?_
        refine aw_goto (tgt := 220) dX8_finds_322 (by decide) ?_
        cases hF
        exact aw_sub [2, 3, 4, 5, 6, 7, 8, 9, 0] rfl (hc (v8, (v9 + 1), I) rfl)
      · rw [if_neg c43] at hF
        refine aw_aload_n dX8_finds_277 1 rfl rfl ?_
        refine aw_iload dX8_finds_278 0 rfl ?_
        refine aw_iload dX8_finds_280 6 rfl ?_
        refine aw_iload_n dX8_finds_282 3 rfl rfl ?_
        obtain ⟨y44, ey44, hF⟩ := qbind hF
        refine aw_callVi (As := [.int (((7 : Int32) * v7) + v9), .int v6, .int v2]) (sX8_restGoes hW hb0 ey44) cl_X8_222 rfl (qroomL (by decide) (by decide)) rfl hb0 (Nat.le_of_ble_eq_true rfl) dX8_finds_283 rfl ?_
        refine aw_if_ne (tgt := 292) dX8_finds_286 (by decide) (fun c45 => ?_) (fun c45 => ?_)
        · rw [if_neg c45] at hF
          refine aw_iload dX8_finds_292 8 rfl ?_
          refine aw_iconst (v := (-1 : Int32)) dX8_finds_294 (by decide) ?_
          refine aw_icmp_eq (tgt := 315) dX8_finds_295 (by decide) (fun c46 => ?_) (fun c46 => ?_)
          · rw [if_pos c46] at hF
            refine aw_iload dX8_finds_315 0 rfl ?_
            refine aw_istore (lv' := [(8, .int (((7 : Int32) * v7) + v9)), (10, .int (((7 : Int32) * v7) + v9)), (0, .ref (G.1 + b0)), (1, .int v1), (2, .int v2), (4, .int v4), (5, .int v5), (6, .int v6), (7, .int v7), (9, .int v9)]) dX8_finds_317 (Nat.le_of_ble_eq_true rfl) rfl ?_
            refine aw_iinc (q := 9) (v := (v9 + 1)) (lv' := [(9, .int (v9 + 1)), (8, .int (((7 : Int32) * v7) + v9)), (10, .int (((7 : Int32) * v7) + v9)), (0, .ref (G.1 + b0)), (1, .int v1), (2, .int v2), (4, .int v4), (5, .int v5), (6, .int v6), (7, .int v7)]) dX8_finds_319 rfl rfl (Nat.le_of_ble_eq_true rfl) rfl ?_
            refine aw_goto (tgt := 220) dX8_finds_322 (by decide) ?_
            cases hF
            exact aw_sub [3, 4, 5, 6, 7, 8, 9, 1, 0] rfl (hc ((((7 : Int32) * v7) + v9), (v9 + 1), y44.2) rfl)
          · rw [if_neg c46] at hF
            refine aw_aload_n dX8_finds_298 1 rfl rfl ?_
            obtain ⟨r47, er47, hF⟩ := qbind hF
            have kr47 : qok R r47 9 := hW.get hb0 er47 rfl
            refine aw_getr fl_X8_20 (by decide) fg_X8_5 hb0 er47 rfl dX8_finds_299 ?_
            refine aw_iload dX8_finds_302 0 rfl ?_
            obtain ⟨x48, ex48, hF⟩ := qbind hF
            refine aw_ialdq kr47 ex48 dX8_finds_304 ?_
            refine aw_aload_n dX8_finds_305 1 rfl rfl ?_
            refine aw_getr fl_X8_20 (by decide) fg_X8_5 hb0 er47 rfl dX8_finds_306 ?_
            refine aw_iload dX8_finds_309 8 rfl ?_
            obtain ⟨x49, ex49, hF⟩ := qbind hF
            refine aw_ialdq kr47 ex49 dX8_finds_311 ?_
            refine aw_icmp_ge (tgt := 319) dX8_finds_312 (by decide) (fun c50 => ?_) (fun c50 => ?_)
            · rw [if_pos c50] at hF
              refine aw_iinc (q := 9) (v := (v9 + 1)) (lv' := [(9, .int (v9 + 1)), (10, .int (((7 : Int32) * v7) + v9)), (0, .ref (G.1 + b0)), (1, .int v1), (2, .int v2), (4, .int v4), (5, .int v5), (6, .int v6), (7, .int v7), (8, .int v8)]) dX8_finds_319 rfl rfl (Nat.le_of_ble_eq_true rfl) rfl ?_
              refine aw_goto (tgt := 220) dX8_finds_322 (by decide) ?_
              cases hF
              exact aw_sub [2, 3, 4, 5, 6, 7, 8, 9, 0] rfl (hc (v8, (v9 + 1), y44.2) rfl)
            · rw [if_neg c50] at hF
              refine aw_iload dX8_finds_315 0 rfl ?_
              refine aw_istore (lv' := [(8, .int (((7 : Int32) * v7) + v9)), (10, .int (((7 : Int32) * v7) + v9)), (0, .ref (G.1 + b0)), (1, .int v1), (2, .int v2), (4, .int v4), (5, .int v5), (6, .int v6), (7, .int v7), (9, .int v9)]) dX8_finds_317 (Nat.le_of_ble_eq_true rfl) rfl ?_
              refine aw_iinc (q := 9) (v := (v9 + 1)) (lv' := [(9, .int (v9 + 1)), (8, .int (((7 : Int32) * v7) + v9)), (10, .int (((7 : Int32) * v7) + v9)), (0, .ref (G.1 + b0)), (1, .int v1), (2, .int v2), (4, .int v4), (5, .int v5), (6, .int v6), (7, .int v7)]) dX8_finds_319 rfl rfl (Nat.le_of_ble_eq_true rfl) rfl ?_
              refine aw_goto (tgt := 220) dX8_finds_322 (by decide) ?_
              cases hF
              exact aw_sub [3, 4, 5, 6, 7, 8, 9, 1, 0] rfl (hc ((((7 : Int32) * v7) + v9), (v9 + 1), y44.2) rfl)
        · rw [if_pos c45] at hF
          refine aw_goto (tgt := 319) dX8_finds_289 (by decide) ?_
          refine aw_iinc (q := 9) (v := (v9 + 1)) (lv' := [(9, .int (v9 + 1)), (10, .int (((7 : Int32) * v7) + v9)), (0, .ref (G.1 + b0)), (1, .int v1), (2, .int v2), (4, .int v4), (5, .int v5), (6, .int v6), (7, .int v7), (8, .int v8)]) dX8_finds_319 rfl rfl (Nat.le_of_ble_eq_true rfl) rfl ?_
          refine aw_goto (tgt := 220) dX8_finds_322 (by decide) ?_
          cases hF
          exact aw_sub [2, 3, 4, 5, 6, 7, 8, 9, 0] rfl (hc (v8, (v9 + 1), y44.2) rfl)
def cX8_finds_196 (N : Nat) (R : qR) (b0 : Nat) (v1 : Int32) (v2 : Int32) (v4 : Int32) (v5 : Int32) (v6 : Int32) (I : qI) : Option ((Int32 × Int32 × qI) ⊕ (qI)) :=
  if (I b0 25) ≤ v6 then
    (some (.inr I))
  else
    ((R.1 b0 27).bind fun r35 =>
    (qrd I R r35 v6).bind fun x36 =>
    (qloop (fun s => cX8_finds_220 N R b0 v1 v2 v4 v5 v6 x36 s.1 s.2.1 s.2.2) N ((-1 : Int32), (1 : Int32), I)).bind fun o51 =>
    (R.1 b0 28).bind fun r52 =>
    (fX8_boardOf N R o51.2 b0 x36 v6 v5 v1 v4).bind fun y53 =>
    (qwr o51.2 R r52 v6 (((7 : Int32) * x36) + y53)).bind fun I54 =>
    (R.1 b0 29).bind fun r55 =>
    (qwr I54 R r55 v6 o51.1).bind fun I56 =>
    some (.inl (o51.1, (v6 + 1), I56)))
set_option maxHeartbeats 4000000 in
set_option maxRecDepth 100000 in
theorem tX8_finds_196 {l : Launch} {G : qG} {N : Nat} {R : qR} {As : List Value} {rv : Option Value} {I1 : qI} {b0 : Nat} {v1 : Int32} {v2 : Int32} {v4 : Int32} (hW : qWT R) (hb0 : qok R b0 8) {o : qI} (hx : AW (Zm l G mX8_finds 5 As R rv I1 R) 370 [] [] o R) : ∀ n s, qloop (fun s => cX8_finds_196 N R b0 v1 v2 v4 s.1 s.2.1 s.2.2) n s = some o → (match s with | (v5, v6, I) => AW (Zm l G mX8_finds 5 As R rv I1 R) 196 [(0, .ref (G.1 + b0)), (1, .int v1), (2, .int v2), (4, .int v4), (5, .int v5), (6, .int v6)] [] I R) := by
  apply qloop_ind
  intro s x hF hc he
  obtain ⟨v5, v6, I⟩ := s
  change cX8_finds_196 N R b0 v1 v2 v4 v5 v6 I = some x at hF
  unfold cX8_finds_196 at hF
  show AW _ 196 [(0, .ref (G.1 + b0)), (1, .int v1), (2, .int v2), (4, .int v4), (5, .int v5), (6, .int v6)] [] I R
  refine aw_iload dX8_finds_196 5 rfl ?_
  refine aw_aload_n dX8_finds_198 0 rfl rfl ?_
  refine aw_geti fl_X8_211 (by decide) fg_X8_25 hb0 rfl dX8_finds_199 ?_
  refine aw_icmp_ge (tgt := 370) dX8_finds_202 (by decide) (fun c34 => ?_) (fun c34 => ?_)
  · rw [if_pos c34] at hF
    cases hF
    have hE := he _ rfl
    subst hE
    exact aw_sub [] rfl hx
  · rw [if_neg c34] at hF
    refine aw_aload_n dX8_finds_205 0 rfl rfl ?_
    obtain ⟨r35, er35, hF⟩ := qbind hF
    have kr35 : qok R r35 9 := hW.get hb0 er35 rfl
    refine aw_getr fl_X8_73 (by decide) fg_X8_27 hb0 er35 rfl dX8_finds_206 ?_
    refine aw_iload dX8_finds_209 5 rfl ?_
    obtain ⟨x36, ex36, hF⟩ := qbind hF
    refine aw_ialdq kr35 ex36 dX8_finds_211 ?_
    refine aw_istore (lv' := [(7, .int x36), (0, .ref (G.1 + b0)), (1, .int v1), (2, .int v2), (4, .int v4), (5, .int v5), (6, .int v6)]) dX8_finds_212 (Nat.le_of_ble_eq_true rfl) rfl ?_
    refine aw_iconst (v := (-1 : Int32)) dX8_finds_214 (by decide) ?_
    refine aw_istore (lv' := [(8, .int (-1 : Int32)), (7, .int x36), (0, .ref (G.1 + b0)), (1, .int v1), (2, .int v2), (4, .int v4), (5, .int v5), (6, .int v6)]) dX8_finds_215 (Nat.le_of_ble_eq_true rfl) rfl ?_
    refine aw_iconst (v := (1 : Int32)) dX8_finds_217 (by decide) ?_
    refine aw_istore (lv' := [(9, .int (1 : Int32)), (8, .int (-1 : Int32)), (7, .int x36), (0, .ref (G.1 + b0)), (1, .int v1), (2, .int v2), (4, .int v4), (5, .int v5), (6, .int v6)]) dX8_finds_218 (Nat.le_of_ble_eq_true rfl) rfl ?_
    obtain ⟨o51, eo51, hF⟩ := qbind hF
    refine aw_sub [3, 4, 5, 6, 7, 8, 2, 1, 0] rfl (tX8_finds_220 hW hb0 (o := o51) ?_ N ((-1 : Int32), (1 : Int32), I) eo51)
    show AW _ 325 [(0, .ref (G.1 + b0)), (1, .int v1), (2, .int v2), (4, .int v4), (5, .int v5), (6, .int v6), (7, .int x36), (8, .int o51.1)] [] o51.2 R
    refine aw_aload_n dX8_finds_325 0 rfl rfl ?_
    obtain ⟨r52, er52, hF⟩ := qbind hF
    have kr52 : qok R r52 9 := hW.get hb0 er52 rfl
    refine aw_getr fl_X8_76 (by decide) fg_X8_28 hb0 er52 rfl dX8_finds_326 ?_
    refine aw_iload dX8_finds_329 5 rfl ?_
    refine aw_bipush (v := (7 : Int32)) dX8_finds_331 (by decide) ?_
    refine aw_iload dX8_finds_333 6 rfl ?_
    refine aw_imul dX8_finds_335 ?_
    refine aw_aload_n dX8_finds_336 0 rfl rfl ?_
    refine aw_iload dX8_finds_337 6 rfl ?_
    refine aw_iload dX8_finds_339 5 rfl ?_
    refine aw_iload dX8_finds_341 4 rfl ?_
    refine aw_iload_n dX8_finds_343 1 rfl rfl ?_
    refine aw_iload dX8_finds_344 3 rfl ?_
    obtain ⟨y53, ey53, hF⟩ := qbind hF
    refine aw_callVi (As := [.int x36, .int v6, .int v5, .int v1, .int v4]) (sX8_boardOf hW hb0 ey53) cl_X8_218 rfl (qroomL (by decide) (by decide)) rfl hb0 (Nat.le_of_ble_eq_true rfl) dX8_finds_346 rfl ?_
    refine aw_iadd dX8_finds_349 ?_
    obtain ⟨I54, eI54, hF⟩ := qbind hF
    refine aw_iastq kr52 eI54 dX8_finds_350 ?_
    refine aw_aload_n dX8_finds_351 0 rfl rfl ?_
    obtain ⟨r55, er55, hF⟩ := qbind hF
    have kr55 : qok R r55 9 := hW.get hb0 er55 rfl
    refine aw_getr fl_X8_79 (by decide) fg_X8_29 hb0 er55 rfl dX8_finds_352 ?_
    refine aw_iload dX8_finds_355 5 rfl ?_
    refine aw_iload dX8_finds_357 7 rfl ?_
    obtain ⟨I56, eI56, hF⟩ := qbind hF
    refine aw_iastq kr55 eI56 dX8_finds_359 ?_
    refine aw_iload dX8_finds_360 7 rfl ?_
    refine aw_istore (lv' := [(5, .int o51.1), (0, .ref (G.1 + b0)), (1, .int v1), (2, .int v2), (4, .int v4), (6, .int v6), (7, .int x36), (8, .int o51.1)]) dX8_finds_362 (Nat.le_of_ble_eq_true rfl) rfl ?_
    refine aw_iinc (q := 5) (v := (v6 + 1)) (lv' := [(6, .int (v6 + 1)), (5, .int o51.1), (0, .ref (G.1 + b0)), (1, .int v1), (2, .int v2), (4, .int v4), (7, .int x36), (8, .int o51.1)]) dX8_finds_364 rfl rfl (Nat.le_of_ble_eq_true rfl) rfl ?_
    refine aw_goto (tgt := 196) dX8_finds_367 (by decide) ?_
    cases hF
    exact aw_sub [2, 3, 4, 5, 1, 0] rfl (hc (o51.1, (v6 + 1), I56) rfl)
def fX8_finds (N : Nat) (R : qR) (I : qI) (a0 : Nat) (p1 : Int32) (p2 : Int32) (p3 : Int32) (p4 : Int32) : Option (Int32 × qI) :=
  (fX8_isStation R I a0 p1).bind fun y1 =>
  if y1 = 0 then
    (some ((0 : Int32), I))
  else
    ((fX8_isStation R I a0 p2).bind fun y3 =>
    if y3 = 0 then
      (some ((0 : Int32), I))
    else
      (if p1 = p2 then
        (some ((0 : Int32), I))
      else
        (if p3 < 0 then
          (some ((0 : Int32), I))
        else
          (if (6 : Int32) < p3 then
            (some ((0 : Int32), I))
          else
            ((fX8_isMinute R I a0 p4).bind fun y8 =>
            if y8 = 0 then
              (some ((0 : Int32), I))
            else
              ((fX8_soonest N R I a0 p1 p2 p3 p4).bind fun y10 =>
              qlet (qup y10.2 a0 26 y10.1) fun I11 =>
              if (I11 a0 26) = (-1 : Int32) then
                (some ((0 : Int32), I11))
              else
                ((fX8_findRest N R I11 a0 p2 p3).bind fun y13 =>
                qlet (qup y13 a0 25 (1 : Int32)) fun I14 =>
                (qloop (fun s => cX8_finds_76 N R a0 p1 p2 p3 p4 s) N I14).bind fun o18 =>
                (qloop (fun s => cX8_finds_111 N R a0 p1 p2 p3 p4 s.1 s.2) N ((0 : Int32), o18)).bind fun o33 =>
                (qloop (fun s => cX8_finds_196 N R a0 p1 p2 p4 s.1 s.2.1 s.2.2) N ((-1 : Int32), (0 : Int32), o33)).bind fun o57 =>
                some ((1 : Int32), o57))))))))
set_option maxHeartbeats 4000000 in
set_option maxRecDepth 100000 in
theorem sX8_finds {l : Launch} {G : qG} {N : Nat} {R : qR} {I : qI} {a0 : Nat} {p1 : Int32} {p2 : Int32} {p3 : Int32} {p4 : Int32} {rv : Int32} {rI : qI} (hW : qWT R) (ha0 : qok R a0 8) (hF : fX8_finds N R I a0 p1 p2 p3 p4 = some (rv, rI)) : qMt l G mX8_finds 5 [.ref (G.1 + a0), .int p1, .int p2, .int p3, .int p4] I R (some (.int rv)) rI R := by
  unfold fX8_finds at hF
  refine qMt_of (by decide) (Nat.le_of_ble_eq_true rfl) ⟨Nat.le_refl _, Nat.le_refl _⟩ ?_
  show AW _ 0 [(0, .ref (G.1 + a0)), (1, .int p1), (2, .int p2), (3, .int p3), (4, .int p4)] [] I R
  refine aw_aload_n dX8_finds_0 0 rfl rfl ?_
  refine aw_iload_n dX8_finds_1 1 rfl rfl ?_
  obtain ⟨y1, ey1, hF⟩ := qbind hF
  refine aw_callVi (As := [.int p1]) (sX8_isStation hW ha0 ey1) cl_X8_107 rfl (qroomL (by decide) (by decide)) rfl ha0 (Nat.le_of_ble_eq_true rfl) dX8_finds_2 rfl ?_
  refine aw_if_eq (tgt := 40) dX8_finds_5 (by decide) (fun c2 => ?_) (fun c2 => ?_)
  · rw [if_pos c2] at hF
    refine aw_iconst (v := (0 : Int32)) dX8_finds_40 (by decide) ?_
    cases hF
    exact aw_zret rfl (by decide) dX8_finds_41 rfl rfl rfl
  · rw [if_neg c2] at hF
    refine aw_aload_n dX8_finds_8 0 rfl rfl ?_
    refine aw_iload_n dX8_finds_9 2 rfl rfl ?_
    obtain ⟨y3, ey3, hF⟩ := qbind hF
    refine aw_callVi (As := [.int p2]) (sX8_isStation hW ha0 ey3) cl_X8_107 rfl (qroomL (by decide) (by decide)) rfl ha0 (Nat.le_of_ble_eq_true rfl) dX8_finds_10 rfl ?_
    refine aw_if_eq (tgt := 40) dX8_finds_13 (by decide) (fun c4 => ?_) (fun c4 => ?_)
    · rw [if_pos c4] at hF
      refine aw_iconst (v := (0 : Int32)) dX8_finds_40 (by decide) ?_
      cases hF
      exact aw_zret rfl (by decide) dX8_finds_41 rfl rfl rfl
    · rw [if_neg c4] at hF
      refine aw_iload_n dX8_finds_16 1 rfl rfl ?_
      refine aw_iload_n dX8_finds_17 2 rfl rfl ?_
      refine aw_icmp_eq (tgt := 40) dX8_finds_18 (by decide) (fun c5 => ?_) (fun c5 => ?_)
      · rw [if_pos c5] at hF
        refine aw_iconst (v := (0 : Int32)) dX8_finds_40 (by decide) ?_
        cases hF
        exact aw_zret rfl (by decide) dX8_finds_41 rfl rfl rfl
      · rw [if_neg c5] at hF
        refine aw_iload_n dX8_finds_21 3 rfl rfl ?_
        refine aw_if_lt (tgt := 40) dX8_finds_22 (by decide) (fun c6 => ?_) (fun c6 => ?_)
        · rw [if_pos c6] at hF
          refine aw_iconst (v := (0 : Int32)) dX8_finds_40 (by decide) ?_
          cases hF
          exact aw_zret rfl (by decide) dX8_finds_41 rfl rfl rfl
        · rw [if_neg c6] at hF
          refine aw_iload_n dX8_finds_25 3 rfl rfl ?_
          refine aw_bipush (v := (6 : Int32)) dX8_finds_26 (by decide) ?_
          refine aw_icmp_gt (tgt := 40) dX8_finds_28 (by decide) (fun c7 => ?_) (fun c7 => ?_)
          · rw [if_pos c7] at hF
            refine aw_iconst (v := (0 : Int32)) dX8_finds_40 (by decide) ?_
            cases hF
            exact aw_zret rfl (by decide) dX8_finds_41 rfl rfl rfl
          · rw [if_neg c7] at hF
            refine aw_aload_n dX8_finds_31 0 rfl rfl ?_
            refine aw_iload dX8_finds_32 4 rfl ?_
            obtain ⟨y8, ey8, hF⟩ := qbind hF
            refine aw_callVi (As := [.int p4]) (sX8_isMinute hW ha0 ey8) cl_X8_110 rfl (qroomL (by decide) (by decide)) rfl ha0 (Nat.le_of_ble_eq_true rfl) dX8_finds_34 rfl ?_
            refine aw_if_ne (tgt := 42) dX8_finds_37 (by decide) (fun c9 => ?_) (fun c9 => ?_)
            · rw [if_neg c9] at hF
              refine aw_aload_n dX8_finds_42 0 rfl rfl ?_
              refine aw_aload_n dX8_finds_43 0 rfl rfl ?_
              refine aw_iload_n dX8_finds_44 1 rfl rfl ?_
              refine aw_iload_n dX8_finds_45 2 rfl rfl ?_
              refine aw_iload_n dX8_finds_46 3 rfl rfl ?_
              refine aw_iload dX8_finds_47 4 rfl ?_
              obtain ⟨y10, ey10, hF⟩ := qbind hF
              refine aw_callVi (As := [.int p1, .int p2, .int p3, .int p4]) (sX8_soonest hW ha0 ey10) cl_X8_204 rfl (qroomL (by decide) (by decide)) rfl ha0 (Nat.le_of_ble_eq_true rfl) dX8_finds_49 rfl ?_
              obtain ⟨I11, eI11, hF⟩ := qletE hF
              refine aw_putiq fl_X8_189 (by decide) fs_X8_26 fn_X8_26 ft_X8_26 ha0 eI11 rfl dX8_finds_52 ?_
              refine aw_aload_n dX8_finds_55 0 rfl rfl ?_
              refine aw_geti fl_X8_189 (by decide) fg_X8_26 ha0 rfl dX8_finds_56 ?_
              refine aw_iconst (v := (-1 : Int32)) dX8_finds_59 (by decide) ?_
              refine aw_icmp_ne (tgt := 65) dX8_finds_60 (by decide) (fun c12 => ?_) (fun c12 => ?_)
              · rw [if_neg c12] at hF
                refine aw_aload_n dX8_finds_65 0 rfl rfl ?_
                refine aw_iload_n dX8_finds_66 2 rfl rfl ?_
                refine aw_iload_n dX8_finds_67 3 rfl rfl ?_
                obtain ⟨y13, ey13, hF⟩ := qbind hF
                refine aw_callVv (As := [.int p2, .int p3]) (sX8_findRest hW ha0 ey13) cl_X8_208 rfl (qroomL (by decide) (by decide)) rfl ha0 (Nat.le_of_ble_eq_true rfl) dX8_finds_68 rfl ?_
                refine aw_aload_n dX8_finds_71 0 rfl rfl ?_
                refine aw_iconst (v := (1 : Int32)) dX8_finds_72 (by decide) ?_
                obtain ⟨I14, eI14, hF⟩ := qletE hF
                refine aw_putiq fl_X8_211 (by decide) fs_X8_25 fn_X8_25 ft_X8_25 ha0 eI14 rfl dX8_finds_73 ?_
                obtain ⟨o18, eo18, hF⟩ := qbind hF
                refine aw_sub [0, 1, 2, 3, 4] rfl (tX8_finds_76 hW ha0 (o := o18) ?_ N I14 eo18)
                show AW _ 108 [(0, .ref (G.1 + a0)), (1, .int p1), (2, .int p2), (3, .int p3), (4, .int p4)] [] o18 R
                refine aw_iconst (v := (0 : Int32)) dX8_finds_108 (by decide) ?_
                refine aw_istore (lv' := [(5, .int (0 : Int32)), (0, .ref (G.1 + a0)), (1, .int p1), (2, .int p2), (3, .int p3), (4, .int p4)]) dX8_finds_109 (Nat.le_of_ble_eq_true rfl) rfl ?_
                obtain ⟨o33, eo33, hF⟩ := qbind hF
                refine aw_sub [1, 2, 3, 4, 5, 0] rfl (tX8_finds_111 hW ha0 (o := o33) ?_ N ((0 : Int32), o18) eo33)
                show AW _ 190 [(0, .ref (G.1 + a0)), (1, .int p1), (2, .int p2), (4, .int p4)] [] o33 R
                refine aw_iconst (v := (-1 : Int32)) dX8_finds_190 (by decide) ?_
                refine aw_istore (lv' := [(5, .int (-1 : Int32)), (0, .ref (G.1 + a0)), (1, .int p1), (2, .int p2), (4, .int p4)]) dX8_finds_191 (Nat.le_of_ble_eq_true rfl) rfl ?_
                refine aw_iconst (v := (0 : Int32)) dX8_finds_193 (by decide) ?_
                refine aw_istore (lv' := [(6, .int (0 : Int32)), (5, .int (-1 : Int32)), (0, .ref (G.1 + a0)), (1, .int p1), (2, .int p2), (4, .int p4)]) dX8_finds_194 (Nat.le_of_ble_eq_true rfl) rfl ?_
                obtain ⟨o57, eo57, hF⟩ := qbind hF
                refine aw_sub [2, 3, 4, 5, 1, 0] rfl (tX8_finds_196 hW ha0 (o := o57) ?_ N ((-1 : Int32), (0 : Int32), o33) eo57)
                show AW _ 370 [] [] o57 R
                refine aw_iconst (v := (1 : Int32)) dX8_finds_370 (by decide) ?_
                cases hF
                exact aw_zret rfl (by decide) dX8_finds_371 rfl rfl rfl
              · rw [if_pos c12] at hF
                refine aw_iconst (v := (0 : Int32)) dX8_finds_63 (by decide) ?_
                cases hF
                exact aw_zret rfl (by decide) dX8_finds_64 rfl rfl rfl
            · rw [if_pos c9] at hF
              refine aw_iconst (v := (0 : Int32)) dX8_finds_40 (by decide) ?_
              cases hF
              exact aw_zret rfl (by decide) dX8_finds_41 rfl rfl rfl
