def fX8_cut (R : qR) (I : qI) (a0 : Nat) (p1 : Int32) : Option (Int32 × qI) :=
  qlet (qup I a0 0 (0 : Int32)) fun I1 =>
  (fX8_isTrain R I1 a0 p1).bind fun y2 =>
  if y2 = 0 then
    (some ((0 : Int32), I1))
  else
    ((R.1 a0 4).bind fun r4 =>
    (qrd I1 R r4 p1).bind fun x5 =>
    if x5 = 0 then
      (some ((0 : Int32), I1))
    else
      ((qwr I1 R r4 p1 (x5 - (1 : Int32))).bind fun I7 =>
      some ((1 : Int32), I7)))
set_option maxHeartbeats 4000000 in
set_option maxRecDepth 100000 in
theorem sX8_cut {l : Launch} {G : qG} {R : qR} {I : qI} {a0 : Nat} {p1 : Int32} {rv : Int32} {rI : qI} (hW : qWT R) (ha0 : qok R a0 8) (hF : fX8_cut R I a0 p1 = some (rv, rI)) : qMt l G mX8_cut 2 [.ref (G.1 + a0), .int p1] I R (some (.int rv)) rI R := by
  unfold fX8_cut at hF
  refine qMt_of (by decide) (Nat.le_of_ble_eq_true rfl) ⟨Nat.le_refl _, Nat.le_refl _⟩ ?_
  show AW _ 0 [(0, .ref (G.1 + a0)), (1, .int p1)] [] I R
  refine aw_aload_n dX8_cut_0 0 rfl rfl ?_
  refine aw_iconst (v := (0 : Int32)) dX8_cut_1 (by decide) ?_
  obtain ⟨I1, eI1, hF⟩ := qletE hF
  refine aw_putiq fl_X8_94 (by decide) fs_X8_0 fn_X8_0 ft_X8_0 ha0 eI1 rfl dX8_cut_2 ?_
  refine aw_aload_n dX8_cut_5 0 rfl rfl ?_
  refine aw_iload_n dX8_cut_6 1 rfl rfl ?_
  obtain ⟨y2, ey2, hF⟩ := qbind hF
  refine aw_callVi (As := [.int p1]) (sX8_isTrain hW ha0 ey2) cl_X8_104 rfl (qroomL (by decide) (by decide)) rfl ha0 (Nat.le_of_ble_eq_true rfl) dX8_cut_7 rfl ?_
  refine aw_if_eq (tgt := 22) dX8_cut_10 (by decide) (fun c3 => ?_) (fun c3 => ?_)
  · rw [if_pos c3] at hF
    refine aw_iconst (v := (0 : Int32)) dX8_cut_22 (by decide) ?_
    cases hF
    exact aw_zret rfl (by decide) dX8_cut_23 rfl rfl rfl
  · rw [if_neg c3] at hF
    refine aw_aload_n dX8_cut_13 0 rfl rfl ?_
    obtain ⟨r4, er4, hF⟩ := qbind hF
    have kr4 : qok R r4 9 := hW.get ha0 er4 rfl
    refine aw_getr fl_X8_17 (by decide) fg_X8_4 ha0 er4 rfl dX8_cut_14 ?_
    refine aw_iload_n dX8_cut_17 1 rfl rfl ?_
    obtain ⟨x5, ex5, hF⟩ := qbind hF
    refine aw_ialdq kr4 ex5 dX8_cut_18 ?_
    refine aw_if_ne (tgt := 24) dX8_cut_19 (by decide) (fun c6 => ?_) (fun c6 => ?_)
    · rw [if_neg c6] at hF
      refine aw_aload_n dX8_cut_24 0 rfl rfl ?_
      refine aw_getr fl_X8_17 (by decide) fg_X8_4 ha0 er4 rfl dX8_cut_25 ?_
      refine aw_iload_n dX8_cut_28 1 rfl rfl ?_
      refine aw_aload_n dX8_cut_29 0 rfl rfl ?_
      refine aw_getr fl_X8_17 (by decide) fg_X8_4 ha0 er4 rfl dX8_cut_30 ?_
      refine aw_iload_n dX8_cut_33 1 rfl rfl ?_
      refine aw_ialdq kr4 ex5 dX8_cut_34 ?_
      refine aw_iconst (v := (1 : Int32)) dX8_cut_35 (by decide) ?_
      refine aw_isub dX8_cut_36 ?_
      obtain ⟨I7, eI7, hF⟩ := qbind hF
      refine aw_iastq kr4 eI7 dX8_cut_37 ?_
      refine aw_iconst (v := (1 : Int32)) dX8_cut_38 (by decide) ?_
      cases hF
      exact aw_zret rfl (by decide) dX8_cut_39 rfl rfl rfl
    · rw [if_pos c6] at hF
      refine aw_iconst (v := (0 : Int32)) dX8_cut_22 (by decide) ?_
      cases hF
      exact aw_zret rfl (by decide) dX8_cut_23 rfl rfl rfl
def cX8_shift_44 (N : Nat) (R : qR) (I : qI) (b0 : Nat) (v1 : Int32) (v2 : Int32) (v3 : Int32) : Option ((Int32) ⊕ ((Unit) ⊕ (Int32 × qI))) :=
  (R.1 b0 4).bind fun r9 =>
  (qrd I R r9 v1).bind fun x10 =>
  if x10 ≤ v3 then
    (some (.inr (.inl ())))
  else
    ((R.1 b0 6).bind fun r12 =>
    (qrd I R r12 (((7 : Int32) * v1) + v3)).bind fun x13 =>
    (fX8_isMinute R I b0 (x13 + v2)).bind fun y14 =>
    if y14 = 0 then
      (some (.inr (.inr ((0 : Int32), I))))
    else
      ((R.1 b0 7).bind fun r16 =>
      (qrd I R r16 (((7 : Int32) * v1) + v3)).bind fun x17 =>
      (fX8_isMinute R I b0 (x17 + v2)).bind fun y18 =>
      if y18 = 0 then
        (some (.inr (.inr ((0 : Int32), I))))
      else
        (some (.inl (v3 + 1)))))
set_option maxHeartbeats 4000000 in
set_option maxRecDepth 100000 in
theorem tX8_shift_44 {l : Launch} {G : qG} {N : Nat} {R : qR} {I : qI} {As : List Value} {rv : Option Value} {I1 : qI} {b0 : Nat} {v1 : Int32} {v2 : Int32} (hW : qWT R) (hb0 : qok R b0 8) {o : (Unit) ⊕ (Int32 × qI)} (hx : match o with | .inl _ => AW (Zm l G mX8_shift 2 As R rv I1 R) 102 [(0, .ref (G.1 + b0)), (1, .int v1), (2, .int v2)] [] I R | .inr (rrv, rrI) => rv = some (.int rrv) ∧ I1 = rrI) : ∀ n s, qloop (fun s => cX8_shift_44 N R I b0 v1 v2 s) n s = some o → AW (Zm l G mX8_shift 2 As R rv I1 R) 44 [(0, .ref (G.1 + b0)), (1, .int v1), (2, .int v2), (3, .int s)] [] I R := by
  apply qloop_ind
  intro s x hF hc he
  obtain ⟨v3, rfl⟩ : ∃ z, z = s := ⟨s, rfl⟩
  change cX8_shift_44 N R I b0 v1 v2 v3 = some x at hF
  unfold cX8_shift_44 at hF
  show AW _ 44 [(0, .ref (G.1 + b0)), (1, .int v1), (2, .int v2), (3, .int v3)] [] I R
  refine aw_iload_n dX8_shift_44 3 rfl rfl ?_
  refine aw_aload_n dX8_shift_45 0 rfl rfl ?_
  obtain ⟨r9, er9, hF⟩ := qbind hF
  have kr9 : qok R r9 9 := hW.get hb0 er9 rfl
  refine aw_getr fl_X8_17 (by decide) fg_X8_4 hb0 er9 rfl dX8_shift_46 ?_
  refine aw_iload_n dX8_shift_49 1 rfl rfl ?_
  obtain ⟨x10, ex10, hF⟩ := qbind hF
  refine aw_ialdq kr9 ex10 dX8_shift_50 ?_
  refine aw_icmp_ge (tgt := 102) dX8_shift_51 (by decide) (fun c11 => ?_) (fun c11 => ?_)
  · rw [if_pos c11] at hF
    cases hF
    have hE := he _ rfl
    subst hE
    exact aw_sub [0, 1, 2] rfl hx
  · rw [if_neg c11] at hF
    refine aw_aload_n dX8_shift_54 0 rfl rfl ?_
    refine aw_aload_n dX8_shift_55 0 rfl rfl ?_
    obtain ⟨r12, er12, hF⟩ := qbind hF
    have kr12 : qok R r12 9 := hW.get hb0 er12 rfl
    refine aw_getr fl_X8_23 (by decide) fg_X8_6 hb0 er12 rfl dX8_shift_56 ?_
    refine aw_bipush (v := (7 : Int32)) dX8_shift_59 (by decide) ?_
    refine aw_iload_n dX8_shift_61 1 rfl rfl ?_
    refine aw_imul dX8_shift_62 ?_
    refine aw_iload_n dX8_shift_63 3 rfl rfl ?_
    refine aw_iadd dX8_shift_64 ?_
    obtain ⟨x13, ex13, hF⟩ := qbind hF
    refine aw_ialdq kr12 ex13 dX8_shift_65 ?_
    refine aw_iload_n dX8_shift_66 2 rfl rfl ?_
    refine aw_iadd dX8_shift_67 ?_
    obtain ⟨y14, ey14, hF⟩ := qbind hF
    refine aw_callVi (As := [.int (x13 + v2)]) (sX8_isMinute hW hb0 ey14) cl_X8_110 rfl (qroomL (by decide) (by decide)) rfl hb0 (Nat.le_of_ble_eq_true rfl) dX8_shift_68 rfl ?_
    refine aw_if_eq (tgt := 94) dX8_shift_71 (by decide) (fun c15 => ?_) (fun c15 => ?_)
    · rw [if_pos c15] at hF
      refine aw_iconst (v := (0 : Int32)) dX8_shift_94 (by decide) ?_
      cases hF
      have hE := he _ rfl
      subst hE
      exact aw_zret rfl (by decide) dX8_shift_95 hx.1 hx.2 rfl
    · rw [if_neg c15] at hF
      refine aw_aload_n dX8_shift_74 0 rfl rfl ?_
      refine aw_aload_n dX8_shift_75 0 rfl rfl ?_
      obtain ⟨r16, er16, hF⟩ := qbind hF
      have kr16 : qok R r16 9 := hW.get hb0 er16 rfl
      refine aw_getr fl_X8_26 (by decide) fg_X8_7 hb0 er16 rfl dX8_shift_76 ?_
      refine aw_bipush (v := (7 : Int32)) dX8_shift_79 (by decide) ?_
      refine aw_iload_n dX8_shift_81 1 rfl rfl ?_
      refine aw_imul dX8_shift_82 ?_
      refine aw_iload_n dX8_shift_83 3 rfl rfl ?_
      refine aw_iadd dX8_shift_84 ?_
      obtain ⟨x17, ex17, hF⟩ := qbind hF
      refine aw_ialdq kr16 ex17 dX8_shift_85 ?_
      refine aw_iload_n dX8_shift_86 2 rfl rfl ?_
      refine aw_iadd dX8_shift_87 ?_
      obtain ⟨y18, ey18, hF⟩ := qbind hF
      refine aw_callVi (As := [.int (x17 + v2)]) (sX8_isMinute hW hb0 ey18) cl_X8_110 rfl (qroomL (by decide) (by decide)) rfl hb0 (Nat.le_of_ble_eq_true rfl) dX8_shift_88 rfl ?_
      refine aw_if_ne (tgt := 96) dX8_shift_91 (by decide) (fun c19 => ?_) (fun c19 => ?_)
      · rw [if_neg c19] at hF
        refine aw_iinc (q := 3) (v := (v3 + 1)) (lv' := [(3, .int (v3 + 1)), (0, .ref (G.1 + b0)), (1, .int v1), (2, .int v2)]) dX8_shift_96 rfl rfl (Nat.le_of_ble_eq_true rfl) rfl ?_
        refine aw_goto (tgt := 44) dX8_shift_99 (by decide) ?_
        cases hF
        exact aw_sub [1, 2, 3, 0] rfl (hc (v3 + 1) rfl)
      · rw [if_pos c19] at hF
        refine aw_iconst (v := (0 : Int32)) dX8_shift_94 (by decide) ?_
        cases hF
        have hE := he _ rfl
        subst hE
        exact aw_zret rfl (by decide) dX8_shift_95 hx.1 hx.2 rfl
def cX8_shift_104 (N : Nat) (R : qR) (b0 : Nat) (v1 : Int32) (v2 : Int32) (v3 : Int32) (I : qI) : Option ((Int32 × qI) ⊕ (qI)) :=
  (R.1 b0 4).bind fun r23 =>
  (qrd I R r23 v1).bind fun x24 =>
  if x24 ≤ v3 then
    (some (.inr I))
  else
    ((R.1 b0 6).bind fun r26 =>
    (qrd I R r26 (((7 : Int32) * v1) + v3)).bind fun x27 =>
    (qwr I R r26 (((7 : Int32) * v1) + v3) (x27 + v2)).bind fun I28 =>
    (R.1 b0 7).bind fun r29 =>
    (qrd I28 R r29 (((7 : Int32) * v1) + v3)).bind fun x30 =>
    (qwr I28 R r29 (((7 : Int32) * v1) + v3) (x30 + v2)).bind fun I31 =>
    some (.inl ((v3 + 1), I31)))
set_option maxHeartbeats 4000000 in
set_option maxRecDepth 100000 in
theorem tX8_shift_104 {l : Launch} {G : qG} {N : Nat} {R : qR} {As : List Value} {rv : Option Value} {I1 : qI} {b0 : Nat} {v1 : Int32} {v2 : Int32} (hW : qWT R) (hb0 : qok R b0 8) {o : qI} (hx : AW (Zm l G mX8_shift 2 As R rv I1 R) 168 [] [] o R) : ∀ n s, qloop (fun s => cX8_shift_104 N R b0 v1 v2 s.1 s.2) n s = some o → (match s with | (v3, I) => AW (Zm l G mX8_shift 2 As R rv I1 R) 104 [(0, .ref (G.1 + b0)), (1, .int v1), (2, .int v2), (3, .int v3)] [] I R) := by
  apply qloop_ind
  intro s x hF hc he
  obtain ⟨v3, I⟩ := s
  change cX8_shift_104 N R b0 v1 v2 v3 I = some x at hF
  unfold cX8_shift_104 at hF
  show AW _ 104 [(0, .ref (G.1 + b0)), (1, .int v1), (2, .int v2), (3, .int v3)] [] I R
  refine aw_iload_n dX8_shift_104 3 rfl rfl ?_
  refine aw_aload_n dX8_shift_105 0 rfl rfl ?_
  obtain ⟨r23, er23, hF⟩ := qbind hF
  have kr23 : qok R r23 9 := hW.get hb0 er23 rfl
  refine aw_getr fl_X8_17 (by decide) fg_X8_4 hb0 er23 rfl dX8_shift_106 ?_
  refine aw_iload_n dX8_shift_109 1 rfl rfl ?_
  obtain ⟨x24, ex24, hF⟩ := qbind hF
  refine aw_ialdq kr23 ex24 dX8_shift_110 ?_
  refine aw_icmp_ge (tgt := 168) dX8_shift_111 (by decide) (fun c25 => ?_) (fun c25 => ?_)
  · rw [if_pos c25] at hF
    cases hF
    have hE := he _ rfl
    subst hE
    exact aw_sub [] rfl hx
  · rw [if_neg c25] at hF
    refine aw_aload_n dX8_shift_114 0 rfl rfl ?_
    obtain ⟨r26, er26, hF⟩ := qbind hF
    have kr26 : qok R r26 9 := hW.get hb0 er26 rfl
    refine aw_getr fl_X8_23 (by decide) fg_X8_6 hb0 er26 rfl dX8_shift_115 ?_
    refine aw_bipush (v := (7 : Int32)) dX8_shift_118 (by decide) ?_
    refine aw_iload_n dX8_shift_120 1 rfl rfl ?_
    refine aw_imul dX8_shift_121 ?_
    refine aw_iload_n dX8_shift_122 3 rfl rfl ?_
    refine aw_iadd dX8_shift_123 ?_
    refine aw_aload_n dX8_shift_124 0 rfl rfl ?_
    refine aw_getr fl_X8_23 (by decide) fg_X8_6 hb0 er26 rfl dX8_shift_125 ?_
    refine aw_bipush (v := (7 : Int32)) dX8_shift_128 (by decide) ?_
    refine aw_iload_n dX8_shift_130 1 rfl rfl ?_
    refine aw_imul dX8_shift_131 ?_
    refine aw_iload_n dX8_shift_132 3 rfl rfl ?_
    refine aw_iadd dX8_shift_133 ?_
    obtain ⟨x27, ex27, hF⟩ := qbind hF
    refine aw_ialdq kr26 ex27 dX8_shift_134 ?_
    refine aw_iload_n dX8_shift_135 2 rfl rfl ?_
    refine aw_iadd dX8_shift_136 ?_
    obtain ⟨I28, eI28, hF⟩ := qbind hF
    refine aw_iastq kr26 eI28 dX8_shift_137 ?_
    refine aw_aload_n dX8_shift_138 0 rfl rfl ?_
    obtain ⟨r29, er29, hF⟩ := qbind hF
    have kr29 : qok R r29 9 := hW.get hb0 er29 rfl
    refine aw_getr fl_X8_26 (by decide) fg_X8_7 hb0 er29 rfl dX8_shift_139 ?_
    refine aw_bipush (v := (7 : Int32)) dX8_shift_142 (by decide) ?_
    refine aw_iload_n dX8_shift_144 1 rfl rfl ?_
    refine aw_imul dX8_shift_145 ?_
    refine aw_iload_n dX8_shift_146 3 rfl rfl ?_
    refine aw_iadd dX8_shift_147 ?_
    refine aw_aload_n dX8_shift_148 0 rfl rfl ?_
    refine aw_getr fl_X8_26 (by decide) fg_X8_7 hb0 er29 rfl dX8_shift_149 ?_
    refine aw_bipush (v := (7 : Int32)) dX8_shift_152 (by decide) ?_
    refine aw_iload_n dX8_shift_154 1 rfl rfl ?_
    refine aw_imul dX8_shift_155 ?_
    refine aw_iload_n dX8_shift_156 3 rfl rfl ?_
    refine aw_iadd dX8_shift_157 ?_
    obtain ⟨x30, ex30, hF⟩ := qbind hF
    refine aw_ialdq kr29 ex30 dX8_shift_158 ?_
    refine aw_iload_n dX8_shift_159 2 rfl rfl ?_
    refine aw_iadd dX8_shift_160 ?_
    obtain ⟨I31, eI31, hF⟩ := qbind hF
    refine aw_iastq kr29 eI31 dX8_shift_161 ?_
    refine aw_iinc (q := 3) (v := (v3 + 1)) (lv' := [(3, .int (v3 + 1)), (0, .ref (G.1 + b0)), (1, .int v1), (2, .int v2)]) dX8_shift_162 rfl rfl (Nat.le_of_ble_eq_true rfl) rfl ?_
    refine aw_goto (tgt := 104) dX8_shift_165 (by decide) ?_
    cases hF
    exact aw_sub [1, 2, 3, 0] rfl (hc ((v3 + 1), I31) rfl)
def fX8_shift (N : Nat) (R : qR) (I : qI) (a0 : Nat) (p1 : Int32) (p2 : Int32) : Option (Int32 × qI) :=
  qlet (qup I a0 0 (0 : Int32)) fun I1 =>
  (fX8_isTrain R I1 a0 p1).bind fun y2 =>
  if y2 = 0 then
    (some ((0 : Int32), I1))
  else
    ((R.1 a0 4).bind fun r4 =>
    (qrd I1 R r4 p1).bind fun x5 =>
    if x5 = 0 then
      (some ((1 : Int32), I1))
    else
      (if p2 < (-1440 : Int32) then
        (some ((0 : Int32), I1))
      else
        (if p2 ≤ (1440 : Int32) then
          ((qloop (fun s => cX8_shift_44 N R I1 a0 p1 p2 s) N (0 : Int32)).bind fun o20 =>
          qx o20 (fun e21 =>
            (qloop (fun s => cX8_shift_104 N R a0 p1 p2 s.1 s.2) N ((0 : Int32), I1)).bind fun o32 =>
            some ((1 : Int32), o32)) (fun q22 => some q22))
        else
          (some ((0 : Int32), I1)))))
set_option maxHeartbeats 4000000 in
set_option maxRecDepth 100000 in
theorem sX8_shift {l : Launch} {G : qG} {N : Nat} {R : qR} {I : qI} {a0 : Nat} {p1 : Int32} {p2 : Int32} {rv : Int32} {rI : qI} (hW : qWT R) (ha0 : qok R a0 8) (hF : fX8_shift N R I a0 p1 p2 = some (rv, rI)) : qMt l G mX8_shift 2 [.ref (G.1 + a0), .int p1, .int p2] I R (some (.int rv)) rI R := by
  unfold fX8_shift at hF
  refine qMt_of (by decide) (Nat.le_of_ble_eq_true rfl) ⟨Nat.le_refl _, Nat.le_refl _⟩ ?_
  show AW _ 0 [(0, .ref (G.1 + a0)), (1, .int p1), (2, .int p2)] [] I R
  refine aw_aload_n dX8_shift_0 0 rfl rfl ?_
  refine aw_iconst (v := (0 : Int32)) dX8_shift_1 (by decide) ?_
  obtain ⟨I1, eI1, hF⟩ := qletE hF
  refine aw_putiq fl_X8_94 (by decide) fs_X8_0 fn_X8_0 ft_X8_0 ha0 eI1 rfl dX8_shift_2 ?_
  refine aw_aload_n dX8_shift_5 0 rfl rfl ?_
  refine aw_iload_n dX8_shift_6 1 rfl rfl ?_
  obtain ⟨y2, ey2, hF⟩ := qbind hF
  refine aw_callVi (As := [.int p1]) (sX8_isTrain hW ha0 ey2) cl_X8_104 rfl (qroomL (by decide) (by decide)) rfl ha0 (Nat.le_of_ble_eq_true rfl) dX8_shift_7 rfl ?_
  refine aw_if_ne (tgt := 15) dX8_shift_10 (by decide) (fun c3 => ?_) (fun c3 => ?_)
  · rw [if_neg c3] at hF
    refine aw_aload_n dX8_shift_15 0 rfl rfl ?_
    obtain ⟨r4, er4, hF⟩ := qbind hF
    have kr4 : qok R r4 9 := hW.get ha0 er4 rfl
    refine aw_getr fl_X8_17 (by decide) fg_X8_4 ha0 er4 rfl dX8_shift_16 ?_
    refine aw_iload_n dX8_shift_19 1 rfl rfl ?_
    obtain ⟨x5, ex5, hF⟩ := qbind hF
    refine aw_ialdq kr4 ex5 dX8_shift_20 ?_
    refine aw_if_ne (tgt := 26) dX8_shift_21 (by decide) (fun c6 => ?_) (fun c6 => ?_)
    · rw [if_neg c6] at hF
      refine aw_iload_n dX8_shift_26 2 rfl rfl ?_
      refine aw_sipush (v := (-1440 : Int32)) dX8_shift_27 (by decide) ?_
      refine aw_icmp_lt (tgt := 40) dX8_shift_30 (by decide) (fun c7 => ?_) (fun c7 => ?_)
      · rw [if_pos c7] at hF
        refine aw_iconst (v := (0 : Int32)) dX8_shift_40 (by decide) ?_
        cases hF
        exact aw_zret rfl (by decide) dX8_shift_41 rfl rfl rfl
      · rw [if_neg c7] at hF
        refine aw_iload_n dX8_shift_33 2 rfl rfl ?_
        refine aw_sipush (v := (1440 : Int32)) dX8_shift_34 (by decide) ?_
        refine aw_icmp_le (tgt := 42) dX8_shift_37 (by decide) (fun c8 => ?_) (fun c8 => ?_)
        · rw [if_pos c8] at hF
          refine aw_iconst (v := (0 : Int32)) dX8_shift_42 (by decide) ?_
          refine aw_istore_n (lv' := [(3, .int (0 : Int32)), (0, .ref (G.1 + a0)), (1, .int p1), (2, .int p2)]) dX8_shift_43 rfl (Nat.le_of_ble_eq_true rfl) rfl ?_
          obtain ⟨o20, eo20, hF⟩ := qbind hF
          refine aw_sub [1, 2, 3, 0] rfl (tX8_shift_44 hW ha0 (o := o20) ?_ N (0 : Int32) eo20)
          cases o20 with
          | inl e21 =>
            replace hF := qxl hF
            show AW _ 102 [(0, .ref (G.1 + a0)), (1, .int p1), (2, .int p2)] [] I1 R
            refine aw_iconst (v := (0 : Int32)) dX8_shift_102 (by decide) ?_
            refine aw_istore_n (lv' := [(3, .int (0 : Int32)), (0, .ref (G.1 + a0)), (1, .int p1), (2, .int p2)]) dX8_shift_103 rfl (Nat.le_of_ble_eq_true rfl) rfl ?_
            obtain ⟨o32, eo32, hF⟩ := qbind hF
            refine aw_sub [1, 2, 3, 0] rfl (tX8_shift_104 hW ha0 (o := o32) ?_ N ((0 : Int32), I1) eo32)
            show AW _ 168 [] [] o32 R
            refine aw_iconst (v := (1 : Int32)) dX8_shift_168 (by decide) ?_
            cases hF
            exact aw_zret rfl (by decide) dX8_shift_169 rfl rfl rfl
          | inr q22 =>
            replace hF := qxr hF
            cases hF
            exact ⟨rfl, rfl⟩
        · rw [if_neg c8] at hF
          refine aw_iconst (v := (0 : Int32)) dX8_shift_40 (by decide) ?_
          cases hF
          exact aw_zret rfl (by decide) dX8_shift_41 rfl rfl rfl
    · rw [if_pos c6] at hF
      refine aw_iconst (v := (1 : Int32)) dX8_shift_24 (by decide) ?_
      cases hF
      exact aw_zret rfl (by decide) dX8_shift_25 rfl rfl rfl
  · rw [if_pos c3] at hF
    refine aw_iconst (v := (0 : Int32)) dX8_shift_13 (by decide) ?_
    cases hF
    exact aw_zret rfl (by decide) dX8_shift_14 rfl rfl rfl
def fX8_sign (R : qR) (I : qI) (a0 : Nat) (p1 : Int32) (p2 : Int32) : Option (Int32 × qI) :=
  qlet (qup I a0 0 (0 : Int32)) fun I1 =>
  if p1 < (7 : Int32) then
    (some ((0 : Int32), I1))
  else
    (if (12 : Int32) < p1 then
      (some ((0 : Int32), I1))
    else
      (if p2 < 0 then
        (some ((0 : Int32), I1))
      else
        (if p2 ≤ (127 : Int32) then
          ((R.1 a0 8).bind fun r6 =>
          (qwr I1 R r6 p1 p2).bind fun I7 =>
          some ((1 : Int32), I7))
        else
          (some ((0 : Int32), I1)))))
set_option maxHeartbeats 4000000 in
set_option maxRecDepth 100000 in
theorem sX8_sign {l : Launch} {G : qG} {R : qR} {I : qI} {a0 : Nat} {p1 : Int32} {p2 : Int32} {rv : Int32} {rI : qI} (hW : qWT R) (ha0 : qok R a0 8) (hF : fX8_sign R I a0 p1 p2 = some (rv, rI)) : qMt l G mX8_sign 1 [.ref (G.1 + a0), .int p1, .int p2] I R (some (.int rv)) rI R := by
  unfold fX8_sign at hF
  refine qMt_of (by decide) (Nat.le_of_ble_eq_true rfl) ⟨Nat.le_refl _, Nat.le_refl _⟩ ?_
  show AW _ 0 [(0, .ref (G.1 + a0)), (1, .int p1), (2, .int p2)] [] I R
  refine aw_aload_n dX8_sign_0 0 rfl rfl ?_
  refine aw_iconst (v := (0 : Int32)) dX8_sign_1 (by decide) ?_
  obtain ⟨I1, eI1, hF⟩ := qletE hF
  refine aw_putiq fl_X8_94 (by decide) fs_X8_0 fn_X8_0 ft_X8_0 ha0 eI1 rfl dX8_sign_2 ?_
  refine aw_iload_n dX8_sign_5 1 rfl rfl ?_
  refine aw_bipush (v := (7 : Int32)) dX8_sign_6 (by decide) ?_
  refine aw_icmp_lt (tgt := 27) dX8_sign_8 (by decide) (fun c2 => ?_) (fun c2 => ?_)
  · rw [if_pos c2] at hF
    refine aw_iconst (v := (0 : Int32)) dX8_sign_27 (by decide) ?_
    cases hF
    exact aw_zret rfl (by decide) dX8_sign_28 rfl rfl rfl
  · rw [if_neg c2] at hF
    refine aw_iload_n dX8_sign_11 1 rfl rfl ?_
    refine aw_bipush (v := (12 : Int32)) dX8_sign_12 (by decide) ?_
    refine aw_icmp_gt (tgt := 27) dX8_sign_14 (by decide) (fun c3 => ?_) (fun c3 => ?_)
    · rw [if_pos c3] at hF
      refine aw_iconst (v := (0 : Int32)) dX8_sign_27 (by decide) ?_
      cases hF
      exact aw_zret rfl (by decide) dX8_sign_28 rfl rfl rfl
    · rw [if_neg c3] at hF
      refine aw_iload_n dX8_sign_17 2 rfl rfl ?_
      refine aw_if_lt (tgt := 27) dX8_sign_18 (by decide) (fun c4 => ?_) (fun c4 => ?_)
      · rw [if_pos c4] at hF
        refine aw_iconst (v := (0 : Int32)) dX8_sign_27 (by decide) ?_
        cases hF
        exact aw_zret rfl (by decide) dX8_sign_28 rfl rfl rfl
      · rw [if_neg c4] at hF
        refine aw_iload_n dX8_sign_21 2 rfl rfl ?_
        refine aw_bipush (v := (127 : Int32)) dX8_sign_22 (by decide) ?_
        refine aw_icmp_le (tgt := 29) dX8_sign_24 (by decide) (fun c5 => ?_) (fun c5 => ?_)
        · rw [if_pos c5] at hF
          refine aw_aload_n dX8_sign_29 0 rfl rfl ?_
          obtain ⟨r6, er6, hF⟩ := qbind hF
          have kr6 : qok R r6 9 := hW.get ha0 er6 rfl
          refine aw_getr fl_X8_29 (by decide) fg_X8_8 ha0 er6 rfl dX8_sign_30 ?_
          refine aw_iload_n dX8_sign_33 1 rfl rfl ?_
          refine aw_iload_n dX8_sign_34 2 rfl rfl ?_
          obtain ⟨I7, eI7, hF⟩ := qbind hF
          refine aw_iastq kr6 eI7 dX8_sign_35 ?_
          refine aw_iconst (v := (1 : Int32)) dX8_sign_36 (by decide) ?_
          cases hF
          exact aw_zret rfl (by decide) dX8_sign_37 rfl rfl rfl
        · rw [if_neg c5] at hF
          refine aw_iconst (v := (0 : Int32)) dX8_sign_27 (by decide) ?_
          cases hF
          exact aw_zret rfl (by decide) dX8_sign_28 rfl rfl rfl
def fX8_change (R : qR) (I : qI) (a0 : Nat) (p1 : Int32) : Option (Int32 × qI) :=
  qlet (qup I a0 0 (0 : Int32)) fun I1 =>
  if p1 < 0 then
    (some ((0 : Int32), I1))
  else
    (if p1 ≤ (60 : Int32) then
      (qlet (qup I1 a0 2 p1) fun I4 =>
      some ((1 : Int32), I4))
    else
      (some ((0 : Int32), I1)))
set_option maxHeartbeats 4000000 in
set_option maxRecDepth 100000 in
theorem sX8_change {l : Launch} {G : qG} {R : qR} {I : qI} {a0 : Nat} {p1 : Int32} {rv : Int32} {rI : qI} (hW : qWT R) (ha0 : qok R a0 8) (hF : fX8_change R I a0 p1 = some (rv, rI)) : qMt l G mX8_change 1 [.ref (G.1 + a0), .int p1] I R (some (.int rv)) rI R := by
  unfold fX8_change at hF
  refine qMt_of (by decide) (Nat.le_of_ble_eq_true rfl) ⟨Nat.le_refl _, Nat.le_refl _⟩ ?_
  show AW _ 0 [(0, .ref (G.1 + a0)), (1, .int p1)] [] I R
  refine aw_aload_n dX8_change_0 0 rfl rfl ?_
  refine aw_iconst (v := (0 : Int32)) dX8_change_1 (by decide) ?_
  obtain ⟨I1, eI1, hF⟩ := qletE hF
  refine aw_putiq fl_X8_94 (by decide) fs_X8_0 fn_X8_0 ft_X8_0 ha0 eI1 rfl dX8_change_2 ?_
  refine aw_iload_n dX8_change_5 1 rfl rfl ?_
  refine aw_if_lt (tgt := 15) dX8_change_6 (by decide) (fun c2 => ?_) (fun c2 => ?_)
  · rw [if_pos c2] at hF
    refine aw_iconst (v := (0 : Int32)) dX8_change_15 (by decide) ?_
    cases hF
    exact aw_zret rfl (by decide) dX8_change_16 rfl rfl rfl
  · rw [if_neg c2] at hF
    refine aw_iload_n dX8_change_9 1 rfl rfl ?_
    refine aw_bipush (v := (60 : Int32)) dX8_change_10 (by decide) ?_
    refine aw_icmp_le (tgt := 17) dX8_change_12 (by decide) (fun c3 => ?_) (fun c3 => ?_)
    · rw [if_pos c3] at hF
      refine aw_aload_n dX8_change_17 0 rfl rfl ?_
      refine aw_iload_n dX8_change_18 1 rfl rfl ?_
      obtain ⟨I4, eI4, hF⟩ := qletE hF
      refine aw_putiq fl_X8_7 (by decide) fs_X8_2 fn_X8_2 ft_X8_2 ha0 eI4 rfl dX8_change_19 ?_
      refine aw_iconst (v := (1 : Int32)) dX8_change_22 (by decide) ?_
      cases hF
      exact aw_zret rfl (by decide) dX8_change_23 rfl rfl rfl
    · rw [if_neg c3] at hF
      refine aw_iconst (v := (0 : Int32)) dX8_change_15 (by decide) ?_
      cases hF
      exact aw_zret rfl (by decide) dX8_change_16 rfl rfl rfl
def fX8_about (R : qR) (I : qI) (a0 : Nat) (p1 : Int32) : Option (Int32 × qI) :=
  qlet (qup I a0 0 (0 : Int32)) fun I1 =>
  if p1 = 0 then
    (some ((I1 a0 1), I1))
  else
    (if p1 = (1 : Int32) then
      (some ((I1 a0 2), I1))
    else
      (if p1 = (2 : Int32) then
        (some ((I1 a0 9), I1))
      else
        (if p1 = (3 : Int32) then
          (some ((I1 a0 10), I1))
        else
          (if p1 < (100 : Int32) then
            (some ((-1 : Int32), I1))
          else
            ((fX8_isTrain R I1 a0 ((p1 / (100 : Int32)) - (1 : Int32))).bind fun y7 =>
            if y7 = 0 then
              (some ((-1 : Int32), I1))
            else
              (if (p1 - p1 / (100 : Int32) * (100 : Int32)) = 0 then
                ((R.1 a0 3).bind fun r26 =>
                (qrd I1 R r26 ((p1 / (100 : Int32)) - (1 : Int32))).bind fun x27 =>
                some (x27, I1))
              else
                (if (p1 - p1 / (100 : Int32) * (100 : Int32)) = (1 : Int32) then
                  ((R.1 a0 4).bind fun r24 =>
                  (qrd I1 R r24 ((p1 / (100 : Int32)) - (1 : Int32))).bind fun x25 =>
                  some (x25, I1))
                else
                  (if (p1 - p1 / (100 : Int32) * (100 : Int32)) < (10 : Int32) then
                    (some ((-1 : Int32), I1))
                  else
                    ((R.1 a0 4).bind fun r12 =>
                    (qrd I1 R r12 ((p1 / (100 : Int32)) - (1 : Int32))).bind fun x13 =>
                    if x13 ≤ (((p1 - p1 / (100 : Int32) * (100 : Int32)) / (10 : Int32)) - (1 : Int32)) then
                      (some ((-1 : Int32), I1))
                    else
                      (if ((p1 - p1 / (100 : Int32) * (100 : Int32)) - (p1 - p1 / (100 : Int32) * (100 : Int32)) / (10 : Int32) * (10 : Int32)) ≤ (2 : Int32) then
                        (if ((p1 - p1 / (100 : Int32) * (100 : Int32)) - (p1 - p1 / (100 : Int32) * (100 : Int32)) / (10 : Int32) * (10 : Int32)) = 0 then
                          ((R.1 a0 5).bind fun r22 =>
                          (qrd I1 R r22 (((7 : Int32) * ((p1 / (100 : Int32)) - (1 : Int32))) + (((p1 - p1 / (100 : Int32) * (100 : Int32)) / (10 : Int32)) - (1 : Int32)))).bind fun x23 =>
                          some (x23, I1))
                        else
                          (if ((p1 - p1 / (100 : Int32) * (100 : Int32)) - (p1 - p1 / (100 : Int32) * (100 : Int32)) / (10 : Int32) * (10 : Int32)) = (1 : Int32) then
                            ((R.1 a0 6).bind fun r20 =>
                            (qrd I1 R r20 (((7 : Int32) * ((p1 / (100 : Int32)) - (1 : Int32))) + (((p1 - p1 / (100 : Int32) * (100 : Int32)) / (10 : Int32)) - (1 : Int32)))).bind fun x21 =>
                            some (x21, I1))
                          else
                            ((R.1 a0 7).bind fun r18 =>
                            (qrd I1 R r18 (((7 : Int32) * ((p1 / (100 : Int32)) - (1 : Int32))) + (((p1 - p1 / (100 : Int32) * (100 : Int32)) / (10 : Int32)) - (1 : Int32)))).bind fun x19 =>
                            some (x19, I1))))
                      else
                        (some ((-1 : Int32), I1))))))))))))
set_option maxHeartbeats 4000000 in
set_option maxRecDepth 100000 in
theorem sX8_about {l : Launch} {G : qG} {R : qR} {I : qI} {a0 : Nat} {p1 : Int32} {rv : Int32} {rI : qI} (hW : qWT R) (ha0 : qok R a0 8) (hF : fX8_about R I a0 p1 = some (rv, rI)) : qMt l G mX8_about 2 [.ref (G.1 + a0), .int p1] I R (some (.int rv)) rI R := by
  unfold fX8_about at hF
  refine qMt_of (by decide) (Nat.le_of_ble_eq_true rfl) ⟨Nat.le_refl _, Nat.le_refl _⟩ ?_
  show AW _ 0 [(0, .ref (G.1 + a0)), (1, .int p1)] [] I R
  refine aw_aload_n dX8_about_0 0 rfl rfl ?_
  refine aw_iconst (v := (0 : Int32)) dX8_about_1 (by decide) ?_
  obtain ⟨I1, eI1, hF⟩ := qletE hF
  refine aw_putiq fl_X8_94 (by decide) fs_X8_0 fn_X8_0 ft_X8_0 ha0 eI1 rfl dX8_about_2 ?_
  refine aw_iload_n dX8_about_5 1 rfl rfl ?_
  refine aw_if_ne (tgt := 14) dX8_about_6 (by decide) (fun c2 => ?_) (fun c2 => ?_)
  · rw [if_neg c2] at hF
    refine aw_iload_n dX8_about_14 1 rfl rfl ?_
    refine aw_iconst (v := (1 : Int32)) dX8_about_15 (by decide) ?_
    refine aw_icmp_ne (tgt := 24) dX8_about_16 (by decide) (fun c3 => ?_) (fun c3 => ?_)
    · rw [if_neg c3] at hF
      refine aw_iload_n dX8_about_24 1 rfl rfl ?_
      refine aw_iconst (v := (2 : Int32)) dX8_about_25 (by decide) ?_
      refine aw_icmp_ne (tgt := 34) dX8_about_26 (by decide) (fun c4 => ?_) (fun c4 => ?_)
      · rw [if_neg c4] at hF
        refine aw_iload_n dX8_about_34 1 rfl rfl ?_
        refine aw_iconst (v := (3 : Int32)) dX8_about_35 (by decide) ?_
        refine aw_icmp_ne (tgt := 44) dX8_about_36 (by decide) (fun c5 => ?_) (fun c5 => ?_)
        · rw [if_neg c5] at hF
          refine aw_iload_n dX8_about_44 1 rfl rfl ?_
          refine aw_bipush (v := (100 : Int32)) dX8_about_45 (by decide) ?_
          refine aw_icmp_lt (tgt := 63) dX8_about_47 (by decide) (fun c6 => ?_) (fun c6 => ?_)
          · rw [if_pos c6] at hF
            refine aw_iconst (v := (-1 : Int32)) dX8_about_63 (by decide) ?_
            cases hF
            exact aw_iret rfl dX8_about_64 rfl rfl rfl
          · rw [if_neg c6] at hF
            refine aw_aload_n dX8_about_50 0 rfl rfl ?_
            refine aw_iload_n dX8_about_51 1 rfl rfl ?_
            refine aw_bipush (v := (100 : Int32)) dX8_about_52 (by decide) ?_
            refine aw_idiv dX8_about_54 (by decide) ?_
            refine aw_iconst (v := (1 : Int32)) dX8_about_55 (by decide) ?_
            refine aw_isub dX8_about_56 ?_
            obtain ⟨y7, ey7, hF⟩ := qbind hF
            refine aw_callVi (As := [.int ((p1 / (100 : Int32)) - (1 : Int32))]) (sX8_isTrain hW ha0 ey7) cl_X8_104 rfl (qroomL (by decide) (by decide)) rfl ha0 (Nat.le_of_ble_eq_true rfl) dX8_about_57 rfl ?_
            refine aw_if_ne (tgt := 65) dX8_about_60 (by decide) (fun c8 => ?_) (fun c8 => ?_)
            · rw [if_neg c8] at hF
              refine aw_iload_n dX8_about_65 1 rfl rfl ?_
              refine aw_bipush (v := (100 : Int32)) dX8_about_66 (by decide) ?_
              refine aw_idiv dX8_about_68 (by decide) ?_
              refine aw_iconst (v := (1 : Int32)) dX8_about_69 (by decide) ?_
              refine aw_isub dX8_about_70 ?_
              refine aw_istore_n (lv' := [(2, .int ((p1 / (100 : Int32)) - (1 : Int32))), (0, .ref (G.1 + a0)), (1, .int p1)]) dX8_about_71 rfl (Nat.le_of_ble_eq_true rfl) rfl ?_
              refine aw_iload_n dX8_about_72 2 rfl rfl ?_
              refine aw_bipush (v := (100 : Int32)) dX8_about_73 (by decide) ?_
              refine aw_irem dX8_about_75 (by decide) ?_
              refine aw_istore_n (lv' := [(3, .int (p1 - p1 / (100 : Int32) * (100 : Int32))), (2, .int ((p1 / (100 : Int32)) - (1 : Int32))), (0, .ref (G.1 + a0)), (1, .int p1)]) dX8_about_76 rfl (Nat.le_of_ble_eq_true rfl) rfl ?_
              refine aw_iload_n dX8_about_77 0 rfl rfl ?_
              refine aw_if_ne (tgt := 88) dX8_about_78 (by decide) (fun c9 => ?_) (fun c9 => ?_)
              · rw [if_neg c9] at hF
                refine aw_iload_n dX8_about_88 0 rfl rfl ?_
                refine aw_iconst (v := (1 : Int32)) dX8_about_89 (by decide) ?_
                refine aw_icmp_ne (tgt := 100) dX8_about_90 (by decide) (fun c10 => ?_) (fun c10 => ?_)
                · rw [if_neg c10] at hF
                  refine aw_iload_n dX8_about_100 0 rfl rfl ?_
                  refine aw_bipush (v := (10 : Int32)) dX8_about_101 (by decide) ?_
                  refine aw_idiv dX8_about_103 (by decide) ?_
                  refine aw_iconst (v := (1 : Int32)) dX8_about_104 (by decide) ?_
                  refine aw_isub dX8_about_105 ?_
                  refine aw_istore (lv' := [(4, .int (((p1 - p1 / (100 : Int32) * (100 : Int32)) / (10 : Int32)) - (1 : Int32))), (3, .int (p1 - p1 / (100 : Int32) * (100 : Int32))), (2, .int ((p1 / (100 : Int32)) - (1 : Int32))), (0, .ref (G.1 + a0)), (1, .int p1)]) dX8_about_106 (Nat.le_of_ble_eq_true rfl) rfl ?_
                  refine aw_iload_n dX8_about_108 1 rfl rfl ?_
                  refine aw_bipush (v := (10 : Int32)) dX8_about_109 (by decide) ?_
                  refine aw_icmp_lt (tgt := 133) dX8_about_111 (by decide) (fun c11 => ?_) (fun c11 => ?_)
                  · rw [if_pos c11] at hF
                    refine aw_iconst (v := (-1 : Int32)) dX8_about_133 (by decide) ?_
                    cases hF
                    exact aw_iret rfl dX8_about_134 rfl rfl rfl
                  · rw [if_neg c11] at hF
                    refine aw_iload dX8_about_114 0 rfl ?_
                    refine aw_aload_n dX8_about_116 3 rfl rfl ?_
                    obtain ⟨r12, er12, hF⟩ := qbind hF
                    have kr12 : qok R r12 9 := hW.get ha0 er12 rfl
                    refine aw_getr fl_X8_17 (by decide) fg_X8_4 ha0 er12 rfl dX8_about_117 ?_
                    refine aw_iload_n dX8_about_120 2 rfl rfl ?_
                    obtain ⟨x13, ex13, hF⟩ := qbind hF
                    refine aw_ialdq kr12 ex13 dX8_about_121 ?_
                    refine aw_icmp_ge (tgt := 133) dX8_about_122 (by decide) (fun c14 => ?_) (fun c14 => ?_)
                    · rw [if_pos c14] at hF
                      refine aw_iconst (v := (-1 : Int32)) dX8_about_133 (by decide) ?_
                      cases hF
                      exact aw_iret rfl dX8_about_134 rfl rfl rfl
                    · rw [if_neg c14] at hF
                      refine aw_iload_n dX8_about_125 1 rfl rfl ?_
                      refine aw_bipush (v := (10 : Int32)) dX8_about_126 (by decide) ?_
                      refine aw_irem dX8_about_128 (by decide) ?_
                      refine aw_iconst (v := (2 : Int32)) dX8_about_129 (by decide) ?_
                      refine aw_icmp_le (tgt := 135) dX8_about_130 (by decide) (fun c15 => ?_) (fun c15 => ?_)
                      · rw [if_pos c15] at hF
                        refine aw_iload_n dX8_about_135 1 rfl rfl ?_
                        refine aw_bipush (v := (10 : Int32)) dX8_about_136 (by decide) ?_
                        refine aw_irem dX8_about_138 (by decide) ?_
                        refine aw_if_ne (tgt := 157) dX8_about_139 (by decide) (fun c16 => ?_) (fun c16 => ?_)
                        · rw [if_neg c16] at hF
                          refine aw_iload_n dX8_about_157 1 rfl rfl ?_
                          refine aw_bipush (v := (10 : Int32)) dX8_about_158 (by decide) ?_
                          refine aw_irem dX8_about_160 (by decide) ?_
                          refine aw_iconst (v := (1 : Int32)) dX8_about_161 (by decide) ?_
                          refine aw_icmp_ne (tgt := 180) dX8_about_162 (by decide) (fun c17 => ?_) (fun c17 => ?_)
                          · rw [if_neg c17] at hF
                            refine aw_aload_n dX8_about_180 3 rfl rfl ?_
                            obtain ⟨r18, er18, hF⟩ := qbind hF
                            have kr18 : qok R r18 9 := hW.get ha0 er18 rfl
                            refine aw_getr fl_X8_26 (by decide) fg_X8_7 ha0 er18 rfl dX8_about_181 ?_
                            refine aw_bipush (v := (7 : Int32)) dX8_about_184 (by decide) ?_
                            refine aw_iload_n dX8_about_186 2 rfl rfl ?_
                            refine aw_imul dX8_about_187 ?_
                            refine aw_iload dX8_about_188 0 rfl ?_
                            refine aw_iadd dX8_about_190 ?_
                            obtain ⟨x19, ex19, hF⟩ := qbind hF
                            refine aw_ialdq kr18 ex19 dX8_about_191 ?_
                            cases hF
                            exact aw_iret rfl dX8_about_192 rfl rfl rfl
                          · rw [if_pos c17] at hF
                            refine aw_aload_n dX8_about_165 3 rfl rfl ?_
                            obtain ⟨r20, er20, hF⟩ := qbind hF
                            have kr20 : qok R r20 9 := hW.get ha0 er20 rfl
                            refine aw_getr fl_X8_23 (by decide) fg_X8_6 ha0 er20 rfl dX8_about_166 ?_
                            refine aw_bipush (v := (7 : Int32)) dX8_about_169 (by decide) ?_
                            refine aw_iload_n dX8_about_171 2 rfl rfl ?_
                            refine aw_imul dX8_about_172 ?_
                            refine aw_iload dX8_about_173 0 rfl ?_
                            refine aw_iadd dX8_about_175 ?_
                            obtain ⟨x21, ex21, hF⟩ := qbind hF
                            refine aw_ialdq kr20 ex21 dX8_about_176 ?_
                            refine aw_goto (tgt := 192) dX8_about_177 (by decide) ?_
                            cases hF
                            exact aw_iret rfl dX8_about_192 rfl rfl rfl
                        · rw [if_pos c16] at hF
                          refine aw_aload_n dX8_about_142 3 rfl rfl ?_
                          obtain ⟨r22, er22, hF⟩ := qbind hF
                          have kr22 : qok R r22 9 := hW.get ha0 er22 rfl
                          refine aw_getr fl_X8_20 (by decide) fg_X8_5 ha0 er22 rfl dX8_about_143 ?_
                          refine aw_bipush (v := (7 : Int32)) dX8_about_146 (by decide) ?_
                          refine aw_iload_n dX8_about_148 2 rfl rfl ?_
                          refine aw_imul dX8_about_149 ?_
                          refine aw_iload dX8_about_150 0 rfl ?_
                          refine aw_iadd dX8_about_152 ?_
                          obtain ⟨x23, ex23, hF⟩ := qbind hF
                          refine aw_ialdq kr22 ex23 dX8_about_153 ?_
                          refine aw_goto (tgt := 192) dX8_about_154 (by decide) ?_
                          cases hF
                          exact aw_iret rfl dX8_about_192 rfl rfl rfl
                      · rw [if_neg c15] at hF
                        refine aw_iconst (v := (-1 : Int32)) dX8_about_133 (by decide) ?_
                        cases hF
                        exact aw_iret rfl dX8_about_134 rfl rfl rfl
                · rw [if_pos c10] at hF
                  refine aw_aload_n dX8_about_93 2 rfl rfl ?_
                  obtain ⟨r24, er24, hF⟩ := qbind hF
                  have kr24 : qok R r24 9 := hW.get ha0 er24 rfl
                  refine aw_getr fl_X8_17 (by decide) fg_X8_4 ha0 er24 rfl dX8_about_94 ?_
                  refine aw_iload_n dX8_about_97 1 rfl rfl ?_
                  obtain ⟨x25, ex25, hF⟩ := qbind hF
                  refine aw_ialdq kr24 ex25 dX8_about_98 ?_
                  cases hF
                  exact aw_iret rfl dX8_about_99 rfl rfl rfl
              · rw [if_pos c9] at hF
                refine aw_aload_n dX8_about_81 2 rfl rfl ?_
                obtain ⟨r26, er26, hF⟩ := qbind hF
                have kr26 : qok R r26 9 := hW.get ha0 er26 rfl
                refine aw_getr fl_X8_13 (by decide) fg_X8_3 ha0 er26 rfl dX8_about_82 ?_
                refine aw_iload_n dX8_about_85 1 rfl rfl ?_
                obtain ⟨x27, ex27, hF⟩ := qbind hF
                refine aw_ialdq kr26 ex27 dX8_about_86 ?_
                cases hF
                exact aw_iret rfl dX8_about_87 rfl rfl rfl
            · rw [if_pos c8] at hF
              refine aw_iconst (v := (-1 : Int32)) dX8_about_63 (by decide) ?_
              cases hF
              exact aw_iret rfl dX8_about_64 rfl rfl rfl
        · rw [if_pos c5] at hF
          refine aw_aload_n dX8_about_39 0 rfl rfl ?_
          refine aw_geti fl_X8_120 (by decide) fg_X8_10 ha0 rfl dX8_about_40 ?_
          cases hF
          exact aw_iret rfl dX8_about_43 rfl rfl rfl
      · rw [if_pos c4] at hF
        refine aw_aload_n dX8_about_29 0 rfl rfl ?_
        refine aw_geti fl_X8_117 (by decide) fg_X8_9 ha0 rfl dX8_about_30 ?_
        cases hF
        exact aw_iret rfl dX8_about_33 rfl rfl rfl
    · rw [if_pos c3] at hF
      refine aw_aload_n dX8_about_19 0 rfl rfl ?_
      refine aw_geti fl_X8_7 (by decide) fg_X8_2 ha0 rfl dX8_about_20 ?_
      cases hF
      exact aw_iret rfl dX8_about_23 rfl rfl rfl
  · rw [if_pos c2] at hF
    refine aw_aload_n dX8_about_9 0 rfl rfl ?_
    refine aw_geti fl_X8_97 (by decide) fg_X8_1 ha0 rfl dX8_about_10 ?_
    cases hF
    exact aw_iret rfl dX8_about_13 rfl rfl rfl
