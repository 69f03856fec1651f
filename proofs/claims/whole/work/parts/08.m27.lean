def fX8_way (N : Nat) (R : qR) (I : qI) (a0 : Nat) (p1 : Int32) (p2 : Int32) (p3 : Int32) (p4 : Int32) (p5 : Int32) : Option (Int32 × qI) :=
  qlet (qup I a0 0 (0 : Int32)) fun I1 =>
  (fX8_finds N R I1 a0 p1 p2 p3 p4).bind fun y2 =>
  if y2.1 = 0 then
    (some ((-1 : Int32), y2.2))
  else
    (if 0 ≤ p5 then
      (if p5 = 0 then
        (some ((y2.2 a0 26), y2.2))
      else
        (if p5 = (1 : Int32) then
          (some ((y2.2 a0 25), y2.2))
        else
          (if p5 = (2 : Int32) then
            ((R.1 a0 7).bind fun r33 =>
            (R.1 a0 28).bind fun r34 =>
            (qrd y2.2 R r34 (0 : Int32)).bind fun x35 =>
            (qrd y2.2 R r33 x35).bind fun x36 =>
            some (x36, y2.2))
          else
            (if ((p5 / (10 : Int32)) - (1 : Int32)) < 0 then
              (some ((-1 : Int32), y2.2))
            else
              (if (y2.2 a0 25) ≤ ((p5 / (10 : Int32)) - (1 : Int32)) then
                (some ((-1 : Int32), y2.2))
              else
                (if (p5 - p5 / (10 : Int32) * (10 : Int32)) ≤ (4 : Int32) then
                  (if (p5 - p5 / (10 : Int32) * (10 : Int32)) = 0 then
                    ((R.1 a0 27).bind fun r31 =>
                    (qrd y2.2 R r31 ((p5 / (10 : Int32)) - (1 : Int32))).bind fun x32 =>
                    some (x32, y2.2))
                  else
                    (if (p5 - p5 / (10 : Int32) * (10 : Int32)) = (1 : Int32) then
                      ((R.1 a0 5).bind fun r27 =>
                      (R.1 a0 28).bind fun r28 =>
                      (qrd y2.2 R r28 ((p5 / (10 : Int32)) - (1 : Int32))).bind fun x29 =>
                      (qrd y2.2 R r27 x29).bind fun x30 =>
                      some (x30, y2.2))
                    else
                      (if (p5 - p5 / (10 : Int32) * (10 : Int32)) = (2 : Int32) then
                        ((R.1 a0 5).bind fun r23 =>
                        (R.1 a0 29).bind fun r24 =>
                        (qrd y2.2 R r24 ((p5 / (10 : Int32)) - (1 : Int32))).bind fun x25 =>
                        (qrd y2.2 R r23 x25).bind fun x26 =>
                        some (x26, y2.2))
                      else
                        (if (p5 - p5 / (10 : Int32) * (10 : Int32)) = (3 : Int32) then
                          ((R.1 a0 7).bind fun r19 =>
                          (R.1 a0 28).bind fun r20 =>
                          (qrd y2.2 R r20 ((p5 / (10 : Int32)) - (1 : Int32))).bind fun x21 =>
                          (qrd y2.2 R r19 x21).bind fun x22 =>
                          some (x22, y2.2))
                        else
                          ((R.1 a0 6).bind fun r15 =>
                          (R.1 a0 29).bind fun r16 =>
                          (qrd y2.2 R r16 ((p5 / (10 : Int32)) - (1 : Int32))).bind fun x17 =>
                          (qrd y2.2 R r15 x17).bind fun x18 =>
                          some (x18, y2.2))))))
                else
                  (some ((-1 : Int32), y2.2))))))))
    else
      (some ((-1 : Int32), y2.2)))
set_option maxHeartbeats 4000000 in
set_option maxRecDepth 100000 in
theorem sX8_way {l : Launch} {G : qG} {N : Nat} {R : qR} {I : qI} {a0 : Nat} {p1 : Int32} {p2 : Int32} {p3 : Int32} {p4 : Int32} {p5 : Int32} {rv : Int32} {rI : qI} (hW : qWT R) (ha0 : qok R a0 8) (hF : fX8_way N R I a0 p1 p2 p3 p4 p5 = some (rv, rI)) : qMt l G mX8_way 6 [.ref (G.1 + a0), .int p1, .int p2, .int p3, .int p4, .int p5] I R (some (.int rv)) rI R := by
  unfold fX8_way at hF
  refine qMt_of (by decide) (Nat.le_of_ble_eq_true rfl) ⟨Nat.le_refl _, Nat.le_refl _⟩ ?_
  show AW _ 0 [(0, .ref (G.1 + a0)), (1, .int p1), (2, .int p2), (3, .int p3), (4, .int p4), (5, .int p5)] [] I R
  refine aw_aload_n dX8_way_0 0 rfl rfl ?_
  refine aw_iconst (v := (0 : Int32)) dX8_way_1 (by decide) ?_
  obtain ⟨I1, eI1, hF⟩ := qletE hF
  refine aw_putiq fl_X8_94 (by decide) fs_X8_0 fn_X8_0 ft_X8_0 ha0 eI1 rfl dX8_way_2 ?_
  refine aw_aload_n dX8_way_5 0 rfl rfl ?_
  refine aw_iload_n dX8_way_6 1 rfl rfl ?_
  refine aw_iload_n dX8_way_7 2 rfl rfl ?_
  refine aw_iload_n dX8_way_8 3 rfl rfl ?_
  refine aw_iload dX8_way_9 4 rfl ?_
  obtain ⟨y2, ey2, hF⟩ := qbind hF
  refine aw_callVi (As := [.int p1, .int p2, .int p3, .int p4]) (sX8_finds hW ha0 ey2) cl_X8_225 rfl (qroomL (by decide) (by decide)) rfl ha0 (Nat.le_of_ble_eq_true rfl) dX8_way_11 rfl ?_
  refine aw_if_eq (tgt := 22) dX8_way_14 (by decide) (fun c3 => ?_) (fun c3 => ?_)
  · rw [if_pos c3] at hF
    refine aw_iconst (v := (-1 : Int32)) dX8_way_22 (by decide) ?_
    cases hF
    exact aw_iret rfl dX8_way_23 rfl rfl rfl
  · rw [if_neg c3] at hF
    refine aw_iload dX8_way_17 5 rfl ?_
    refine aw_if_ge (tgt := 24) dX8_way_19 (by decide) (fun c4 => ?_) (fun c4 => ?_)
    · rw [if_pos c4] at hF
      refine aw_iload dX8_way_24 5 rfl ?_
      refine aw_if_ne (tgt := 34) dX8_way_26 (by decide) (fun c5 => ?_) (fun c5 => ?_)
      · rw [if_neg c5] at hF
        refine aw_iload dX8_way_34 5 rfl ?_
        refine aw_iconst (v := (1 : Int32)) dX8_way_36 (by decide) ?_
        refine aw_icmp_ne (tgt := 45) dX8_way_37 (by decide) (fun c6 => ?_) (fun c6 => ?_)
        · rw [if_neg c6] at hF
          refine aw_iload dX8_way_45 5 rfl ?_
          refine aw_iconst (v := (2 : Int32)) dX8_way_47 (by decide) ?_
          refine aw_icmp_ne (tgt := 63) dX8_way_48 (by decide) (fun c7 => ?_) (fun c7 => ?_)
          · rw [if_neg c7] at hF
            refine aw_iload dX8_way_63 5 rfl ?_
            refine aw_bipush (v := (10 : Int32)) dX8_way_65 (by decide) ?_
            refine aw_idiv dX8_way_67 (by decide) ?_
            refine aw_iconst (v := (1 : Int32)) dX8_way_68 (by decide) ?_
            refine aw_isub dX8_way_69 ?_
            refine aw_istore (lv' := [(6, .int ((p5 / (10 : Int32)) - (1 : Int32))), (0, .ref (G.1 + a0)), (1, .int p1), (2, .int p2), (3, .int p3), (4, .int p4), (5, .int p5)]) dX8_way_70 (Nat.le_of_ble_eq_true rfl) rfl ?_
            refine aw_iload dX8_way_72 6 rfl ?_
            refine aw_bipush (v := (10 : Int32)) dX8_way_74 (by decide) ?_
            refine aw_irem dX8_way_76 (by decide) ?_
            refine aw_istore (lv' := [(7, .int (p5 - p5 / (10 : Int32) * (10 : Int32))), (6, .int ((p5 / (10 : Int32)) - (1 : Int32))), (0, .ref (G.1 + a0)), (1, .int p1), (2, .int p2), (3, .int p3), (4, .int p4), (5, .int p5)]) dX8_way_77 (Nat.le_of_ble_eq_true rfl) rfl ?_
            refine aw_iload dX8_way_79 1 rfl ?_
            refine aw_if_lt (tgt := 99) dX8_way_81 (by decide) (fun c8 => ?_) (fun c8 => ?_)
            · rw [if_pos c8] at hF
              refine aw_iconst (v := (-1 : Int32)) dX8_way_99 (by decide) ?_
              cases hF
              exact aw_iret rfl dX8_way_100 rfl rfl rfl
            · rw [if_neg c8] at hF
              refine aw_iload dX8_way_84 1 rfl ?_
              refine aw_aload_n dX8_way_86 2 rfl rfl ?_
              refine aw_geti fl_X8_211 (by decide) fg_X8_25 ha0 rfl dX8_way_87 ?_
              refine aw_icmp_ge (tgt := 99) dX8_way_90 (by decide) (fun c9 => ?_) (fun c9 => ?_)
              · rw [if_pos c9] at hF
                refine aw_iconst (v := (-1 : Int32)) dX8_way_99 (by decide) ?_
                cases hF
                exact aw_iret rfl dX8_way_100 rfl rfl rfl
              · rw [if_neg c9] at hF
                refine aw_iload dX8_way_93 0 rfl ?_
                refine aw_iconst (v := (4 : Int32)) dX8_way_95 (by decide) ?_
                refine aw_icmp_le (tgt := 101) dX8_way_96 (by decide) (fun c10 => ?_) (fun c10 => ?_)
                · rw [if_pos c10] at hF
                  refine aw_iload dX8_way_101 0 rfl ?_
                  refine aw_if_ne (tgt := 114) dX8_way_103 (by decide) (fun c11 => ?_) (fun c11 => ?_)
                  · rw [if_neg c11] at hF
                    refine aw_iload dX8_way_114 0 rfl ?_
                    refine aw_iconst (v := (1 : Int32)) dX8_way_116 (by decide) ?_
                    refine aw_icmp_ne (tgt := 133) dX8_way_117 (by decide) (fun c12 => ?_) (fun c12 => ?_)
                    · rw [if_neg c12] at hF
                      refine aw_iload dX8_way_133 0 rfl ?_
                      refine aw_iconst (v := (2 : Int32)) dX8_way_135 (by decide) ?_
                      refine aw_icmp_ne (tgt := 152) dX8_way_136 (by decide) (fun c13 => ?_) (fun c13 => ?_)
                      · rw [if_neg c13] at hF
                        refine aw_iload dX8_way_152 0 rfl ?_
                        refine aw_iconst (v := (3 : Int32)) dX8_way_154 (by decide) ?_
                        refine aw_icmp_ne (tgt := 173) dX8_way_155 (by decide) (fun c14 => ?_) (fun c14 => ?_)
                        · rw [if_neg c14] at hF
                          refine aw_aload_n dX8_way_173 2 rfl rfl ?_
                          obtain ⟨r15, er15, hF⟩ := qbind hF
                          have kr15 : qok R r15 9 := hW.get ha0 er15 rfl
                          refine aw_getr fl_X8_23 (by decide) fg_X8_6 ha0 er15 rfl dX8_way_174 ?_
                          refine aw_aload_n dX8_way_177 2 rfl rfl ?_
                          obtain ⟨r16, er16, hF⟩ := qbind hF
                          have kr16 : qok R r16 9 := hW.get ha0 er16 rfl
                          refine aw_getr fl_X8_79 (by decide) fg_X8_29 ha0 er16 rfl dX8_way_178 ?_
                          refine aw_iload dX8_way_181 1 rfl ?_
                          obtain ⟨x17, ex17, hF⟩ := qbind hF
                          refine aw_ialdq kr16 ex17 dX8_way_183 ?_
                          obtain ⟨x18, ex18, hF⟩ := qbind hF
                          refine aw_ialdq kr15 ex18 dX8_way_184 ?_
                          cases hF
                          exact aw_iret rfl dX8_way_185 rfl rfl rfl
                        · rw [if_pos c14] at hF
                          refine aw_aload_n dX8_way_158 2 rfl rfl ?_
                          obtain ⟨r19, er19, hF⟩ := qbind hF
                          have kr19 : qok R r19 9 := hW.get ha0 er19 rfl
                          refine aw_getr fl_X8_26 (by decide) fg_X8_7 ha0 er19 rfl dX8_way_159 ?_
                          refine aw_aload_n dX8_way_162 2 rfl rfl ?_
                          obtain ⟨r20, er20, hF⟩ := qbind hF
                          have kr20 : qok R r20 9 := hW.get ha0 er20 rfl
                          refine aw_getr fl_X8_76 (by decide) fg_X8_28 ha0 er20 rfl dX8_way_163 ?_
                          refine aw_iload dX8_way_166 1 rfl ?_
                          obtain ⟨x21, ex21, hF⟩ := qbind hF
                          refine aw_ialdq kr20 ex21 dX8_way_168 ?_
                          obtain ⟨x22, ex22, hF⟩ := qbind hF
                          refine aw_ialdq kr19 ex22 dX8_way_169 ?_
                          refine aw_goto (tgt := 185) dX8_way_170 (by decide) ?_
                          cases hF
                          exact aw_iret rfl dX8_way_185 rfl rfl rfl
                      · rw [if_pos c13] at hF
                        refine aw_aload_n dX8_way_139 2 rfl rfl ?_
                        obtain ⟨r23, er23, hF⟩ := qbind hF
                        have kr23 : qok R r23 9 := hW.get ha0 er23 rfl
                        refine aw_getr fl_X8_20 (by decide) fg_X8_5 ha0 er23 rfl dX8_way_140 ?_
                        refine aw_aload_n dX8_way_143 2 rfl rfl ?_
                        obtain ⟨r24, er24, hF⟩ := qbind hF
                        have kr24 : qok R r24 9 := hW.get ha0 er24 rfl
                        refine aw_getr fl_X8_79 (by decide) fg_X8_29 ha0 er24 rfl dX8_way_144 ?_
                        refine aw_iload dX8_way_147 1 rfl ?_
                        obtain ⟨x25, ex25, hF⟩ := qbind hF
                        refine aw_ialdq kr24 ex25 dX8_way_149 ?_
                        obtain ⟨x26, ex26, hF⟩ := qbind hF
                        refine aw_ialdq kr23 ex26 dX8_way_150 ?_
                        cases hF
                        exact aw_iret rfl dX8_way_151 rfl rfl rfl
                    · rw [if_pos c12] at hF
                      refine aw_aload_n dX8_way_120 2 rfl rfl ?_
                      obtain ⟨r27, er27, hF⟩ := qbind hF
                      have kr27 : qok R r27 9 := hW.get ha0 er27 rfl
                      refine aw_getr fl_X8_20 (by decide) fg_X8_5 ha0 er27 rfl dX8_way_121 ?_
                      refine aw_aload_n dX8_way_124 2 rfl rfl ?_
                      obtain ⟨r28, er28, hF⟩ := qbind hF
                      have kr28 : qok R r28 9 := hW.get ha0 er28 rfl
                      refine aw_getr fl_X8_76 (by decide) fg_X8_28 ha0 er28 rfl dX8_way_125 ?_
                      refine aw_iload dX8_way_128 1 rfl ?_
                      obtain ⟨x29, ex29, hF⟩ := qbind hF
                      refine aw_ialdq kr28 ex29 dX8_way_130 ?_
                      obtain ⟨x30, ex30, hF⟩ := qbind hF
                      refine aw_ialdq kr27 ex30 dX8_way_131 ?_
                      cases hF
                      exact aw_iret rfl dX8_way_132 rfl rfl rfl
                  · rw [if_pos c11] at hF
                    refine aw_aload_n dX8_way_106 2 rfl rfl ?_
                    obtain ⟨r31, er31, hF⟩ := qbind hF
                    have kr31 : qok R r31 9 := hW.get ha0 er31 rfl
                    refine aw_getr fl_X8_73 (by decide) fg_X8_27 ha0 er31 rfl dX8_way_107 ?_
                    refine aw_iload dX8_way_110 1 rfl ?_
                    obtain ⟨x32, ex32, hF⟩ := qbind hF
                    refine aw_ialdq kr31 ex32 dX8_way_112 ?_
                    cases hF
                    exact aw_iret rfl dX8_way_113 rfl rfl rfl
                · rw [if_neg c10] at hF
                  refine aw_iconst (v := (-1 : Int32)) dX8_way_99 (by decide) ?_
                  cases hF
                  exact aw_iret rfl dX8_way_100 rfl rfl rfl
          · rw [if_pos c7] at hF
            refine aw_aload_n dX8_way_51 0 rfl rfl ?_
            obtain ⟨r33, er33, hF⟩ := qbind hF
            have kr33 : qok R r33 9 := hW.get ha0 er33 rfl
            refine aw_getr fl_X8_26 (by decide) fg_X8_7 ha0 er33 rfl dX8_way_52 ?_
            refine aw_aload_n dX8_way_55 0 rfl rfl ?_
            obtain ⟨r34, er34, hF⟩ := qbind hF
            have kr34 : qok R r34 9 := hW.get ha0 er34 rfl
            refine aw_getr fl_X8_76 (by decide) fg_X8_28 ha0 er34 rfl dX8_way_56 ?_
            refine aw_iconst (v := (0 : Int32)) dX8_way_59 (by decide) ?_
            obtain ⟨x35, ex35, hF⟩ := qbind hF
            refine aw_ialdq kr34 ex35 dX8_way_60 ?_
            obtain ⟨x36, ex36, hF⟩ := qbind hF
            refine aw_ialdq kr33 ex36 dX8_way_61 ?_
            cases hF
            exact aw_iret rfl dX8_way_62 rfl rfl rfl
        · rw [if_pos c6] at hF
          refine aw_aload_n dX8_way_40 0 rfl rfl ?_
          refine aw_geti fl_X8_211 (by decide) fg_X8_25 ha0 rfl dX8_way_41 ?_
          cases hF
          exact aw_iret rfl dX8_way_44 rfl rfl rfl
      · rw [if_pos c5] at hF
        refine aw_aload_n dX8_way_29 0 rfl rfl ?_
        refine aw_geti fl_X8_189 (by decide) fg_X8_26 ha0 rfl dX8_way_30 ?_
        cases hF
        exact aw_iret rfl dX8_way_33 rfl rfl rfl
    · rw [if_neg c4] at hF
      refine aw_iconst (v := (-1 : Int32)) dX8_way_22 (by decide) ?_
      cases hF
      exact aw_iret rfl dX8_way_23 rfl rfl rfl
def cX8_isGone_3 (N : Nat) (R : qR) (I : qI) (b0 : Nat) (v1 : Int32) (v2 : Int32) (v3 : Int32) (v4 : Int32) : Option ((Int32) ⊕ ((Unit) ⊕ (Int32))) :=
  if (I b0 1) ≤ v4 then
    (some (.inr (.inl ())))
  else
    ((fX8_stopAt N R I b0 v4 v1).bind fun y2 =>
    (fX8_runs R I b0 v4 v2).bind fun y3 =>
    if y3 = 0 then
      (some (.inl (v4 + 1)))
    else
      (if y2 = (-1 : Int32) then
        (some (.inl (v4 + 1)))
      else
        ((R.1 b0 4).bind fun r6 =>
        (qrd I R r6 v4).bind fun x7 =>
        if (x7 - (1 : Int32)) ≤ y2 then
          (some (.inl (v4 + 1)))
        else
          ((R.1 b0 7).bind fun r9 =>
          (qrd I R r9 (((7 : Int32) * v4) + y2)).bind fun x10 =>
          if x10 = v3 then
            (some (.inr (.inr (1 : Int32))))
          else
            (some (.inl (v4 + 1)))))))
set_option maxHeartbeats 4000000 in
set_option maxRecDepth 100000 in
theorem tX8_isGone_3 {l : Launch} {G : qG} {N : Nat} {R : qR} {I : qI} {As : List Value} {rv : Option Value} {b0 : Nat} {v1 : Int32} {v2 : Int32} {v3 : Int32} (hW : qWT R) (hb0 : qok R b0 8) {o : (Unit) ⊕ (Int32)} (hx : match o with | .inl _ => AW (Zm l G mX8_isGone 2 As R rv I R) 76 [] [] I R | .inr rrv => rv = some (.int rrv) ∧ True) : ∀ n s, qloop (fun s => cX8_isGone_3 N R I b0 v1 v2 v3 s) n s = some o → AW (Zm l G mX8_isGone 2 As R rv I R) 3 [(0, .ref (G.1 + b0)), (1, .int v1), (2, .int v2), (3, .int v3), (4, .int s)] [] I R := by
  apply qloop_ind
  intro s x hF hc he
  obtain ⟨v4, rfl⟩ : ∃ z, z = s := ⟨s, rfl⟩
  change cX8_isGone_3 N R I b0 v1 v2 v3 v4 = some x at hF
  unfold cX8_isGone_3 at hF
  show AW _ 3 [(0, .ref (G.1 + b0)), (1, .int v1), (2, .int v2), (3, .int v3), (4, .int v4)] [] I R
  refine aw_iload dX8_isGone_3 4 rfl ?_
  refine aw_aload_n dX8_isGone_5 0 rfl rfl ?_
  refine aw_geti fl_X8_97 (by decide) fg_X8_1 hb0 rfl dX8_isGone_6 ?_
  refine aw_icmp_ge (tgt := 76) dX8_isGone_9 (by decide) (fun c1 => ?_) (fun c1 => ?_)
  · rw [if_pos c1] at hF
    cases hF
    have hE := he _ rfl
    subst hE
    exact aw_sub [] rfl hx
  · rw [if_neg c1] at hF
    refine aw_aload_n dX8_isGone_12 0 rfl rfl ?_
    refine aw_iload dX8_isGone_13 4 rfl ?_
    refine aw_iload_n dX8_isGone_15 1 rfl rfl ?_
    obtain ⟨y2, ey2, hF⟩ := qbind hF
    refine aw_callVi (As := [.int v4, .int v1]) (sX8_stopAt hW hb0 ey2) cl_X8_113 rfl (qroomL (by decide) (by decide)) rfl hb0 (Nat.le_of_ble_eq_true rfl) dX8_isGone_16 rfl ?_
    refine aw_istore (lv' := [(5, .int y2), (0, .ref (G.1 + b0)), (1, .int v1), (2, .int v2), (3, .int v3), (4, .int v4)]) dX8_isGone_19 (Nat.le_of_ble_eq_true rfl) rfl ?_
    refine aw_aload_n dX8_isGone_21 1 rfl rfl ?_
    refine aw_iload dX8_isGone_22 5 rfl ?_
    refine aw_iload_n dX8_isGone_24 3 rfl rfl ?_
    obtain ⟨y3, ey3, hF⟩ := qbind hF
    refine aw_callVi (As := [.int v4, .int v2]) (sX8_runs hW hb0 ey3) cl_X8_179 rfl (qroomL (by decide) (by decide)) rfl hb0 (Nat.le_of_ble_eq_true rfl) dX8_isGone_25 rfl ?_
    refine aw_if_eq (tgt := 70) dX8_isGone_28 (by decide) (fun c4 => ?_) (fun c4 => ?_)
    · rw [if_pos c4] at hF
      refine aw_iinc (q := 5) (v := (v4 + 1)) (lv' := [(4, .int (v4 + 1)), (5, .int y2), (0, .ref (G.1 + b0)), (1, .int v1), (2, .int v2), (3, .int v3)]) dX8_isGone_70 rfl rfl (Nat.le_of_ble_eq_true rfl) rfl ?_
      refine aw_goto (tgt := 3) dX8_isGone_73 (by decide) ?_
      cases hF
      exact aw_sub [2, 3, 4, 5, 0] rfl (hc (v4 + 1) rfl)
    · rw [if_neg c4] at hF
      refine aw_iload dX8_isGone_31 0 rfl ?_
      refine aw_iconst (v := (-1 : Int32)) dX8_isGone_33 (by decide) ?_
      refine aw_icmp_eq (tgt := 70) dX8_isGone_34 (by decide) (fun c5 => ?_) (fun c5 => ?_)
      · rw [if_pos c5] at hF
        refine aw_iinc (q := 5) (v := (v4 + 1)) (lv' := [(4, .int (v4 + 1)), (5, .int y2), (0, .ref (G.1 + b0)), (1, .int v1), (2, .int v2), (3, .int v3)]) dX8_isGone_70 rfl rfl (Nat.le_of_ble_eq_true rfl) rfl ?_
        refine aw_goto (tgt := 3) dX8_isGone_73 (by decide) ?_
        cases hF
        exact aw_sub [2, 3, 4, 5, 0] rfl (hc (v4 + 1) rfl)
      · rw [if_neg c5] at hF
        refine aw_iload dX8_isGone_37 0 rfl ?_
        refine aw_aload_n dX8_isGone_39 1 rfl rfl ?_
        obtain ⟨r6, er6, hF⟩ := qbind hF
        have kr6 : qok R r6 9 := hW.get hb0 er6 rfl
        refine aw_getr fl_X8_17 (by decide) fg_X8_4 hb0 er6 rfl dX8_isGone_40 ?_
        refine aw_iload dX8_isGone_43 5 rfl ?_
        obtain ⟨x7, ex7, hF⟩ := qbind hF
        refine aw_ialdq kr6 ex7 dX8_isGone_45 ?_
        refine aw_iconst (v := (1 : Int32)) dX8_isGone_46 (by decide) ?_
        refine aw_isub dX8_isGone_47 ?_
        refine aw_icmp_ge (tgt := 70) dX8_isGone_48 (by decide) (fun c8 => ?_) (fun c8 => ?_)
        · rw [if_pos c8] at hF
          refine aw_iinc (q := 5) (v := (v4 + 1)) (lv' := [(4, .int (v4 + 1)), (5, .int y2), (0, .ref (G.1 + b0)), (1, .int v1), (2, .int v2), (3, .int v3)]) dX8_isGone_70 rfl rfl (Nat.le_of_ble_eq_true rfl) rfl ?_
          refine aw_goto (tgt := 3) dX8_isGone_73 (by decide) ?_
          cases hF
          exact aw_sub [2, 3, 4, 5, 0] rfl (hc (v4 + 1) rfl)
        · rw [if_neg c8] at hF
          refine aw_aload_n dX8_isGone_51 1 rfl rfl ?_
          obtain ⟨r9, er9, hF⟩ := qbind hF
          have kr9 : qok R r9 9 := hW.get hb0 er9 rfl
          refine aw_getr fl_X8_26 (by decide) fg_X8_7 hb0 er9 rfl dX8_isGone_52 ?_
          refine aw_bipush (v := (7 : Int32)) dX8_isGone_55 (by decide) ?_
          refine aw_iload dX8_isGone_57 5 rfl ?_
          refine aw_imul dX8_isGone_59 ?_
          refine aw_iload dX8_isGone_60 0 rfl ?_
          refine aw_iadd dX8_isGone_62 ?_
          obtain ⟨x10, ex10, hF⟩ := qbind hF
          refine aw_ialdq kr9 ex10 dX8_isGone_63 ?_
          refine aw_iload_n dX8_isGone_64 4 rfl rfl ?_
          refine aw_icmp_ne (tgt := 70) dX8_isGone_65 (by decide) (fun c11 => ?_) (fun c11 => ?_)
          · rw [if_neg c11] at hF
            refine aw_iinc (q := 5) (v := (v4 + 1)) (lv' := [(4, .int (v4 + 1)), (5, .int y2), (0, .ref (G.1 + b0)), (1, .int v1), (2, .int v2), (3, .int v3)]) dX8_isGone_70 rfl rfl (Nat.le_of_ble_eq_true rfl) rfl ?_
            refine aw_goto (tgt := 3) dX8_isGone_73 (by decide) ?_
            cases hF
            exact aw_sub [2, 3, 4, 5, 0] rfl (hc (v4 + 1) rfl)
          · rw [if_pos c11] at hF
            refine aw_iconst (v := (1 : Int32)) dX8_isGone_68 (by decide) ?_
            cases hF
            have hE := he _ rfl
            subst hE
            exact aw_zret rfl (by decide) dX8_isGone_69 hx.1 rfl rfl
def fX8_isGone (N : Nat) (R : qR) (I : qI) (a0 : Nat) (p1 : Int32) (p2 : Int32) (p3 : Int32) : Option (Int32) :=
  (qloop (fun s => cX8_isGone_3 N R I a0 p1 p2 p3 s) N (0 : Int32)).bind fun o12 =>
  qx o12 (fun e13 =>
    some (0 : Int32)) (fun q14 => some q14)
set_option maxHeartbeats 4000000 in
set_option maxRecDepth 100000 in
theorem sX8_isGone {l : Launch} {G : qG} {N : Nat} {R : qR} {I : qI} {a0 : Nat} {p1 : Int32} {p2 : Int32} {p3 : Int32} {rv : Int32} (hW : qWT R) (ha0 : qok R a0 8) (hF : fX8_isGone N R I a0 p1 p2 p3 = some rv) : qMt l G mX8_isGone 2 [.ref (G.1 + a0), .int p1, .int p2, .int p3] I R (some (.int rv)) I R := by
  unfold fX8_isGone at hF
  refine qMt_of (by decide) (Nat.le_of_ble_eq_true rfl) ⟨Nat.le_refl _, Nat.le_refl _⟩ ?_
  show AW _ 0 [(0, .ref (G.1 + a0)), (1, .int p1), (2, .int p2), (3, .int p3)] [] I R
  refine aw_iconst (v := (0 : Int32)) dX8_isGone_0 (by decide) ?_
  refine aw_istore (lv' := [(4, .int (0 : Int32)), (0, .ref (G.1 + a0)), (1, .int p1), (2, .int p2), (3, .int p3)]) dX8_isGone_1 (Nat.le_of_ble_eq_true rfl) rfl ?_
  obtain ⟨o12, eo12, hF⟩ := qbind hF
  refine aw_sub [1, 2, 3, 4, 0] rfl (tX8_isGone_3 hW ha0 (o := o12) ?_ N (0 : Int32) eo12)
  cases o12 with
  | inl e13 =>
    replace hF := qxl hF
    show AW _ 76 [] [] I R
    refine aw_iconst (v := (0 : Int32)) dX8_isGone_76 (by decide) ?_
    cases hF
    exact aw_zret rfl (by decide) dX8_isGone_77 rfl rfl rfl
  | inr q14 =>
    replace hF := qxr hF
    cases hF
    exact ⟨rfl, trivial⟩
def cX8_findDepartures_8 (N : Nat) (R : qR) (b0 : Nat) (v1 : Int32) (v2 : Int32) (v3 : Int32) (v4 : Int32) (I : qI) : Option ((Int32 × qI) ⊕ (qI)) :=
  if (1440 : Int32) ≤ v4 then
    (some (.inr I))
  else
    ((fX8_isGone N R I b0 v1 v3 v4).bind fun y3 =>
    if y3 = 0 then
      (some (.inl ((v4 + 1), I)))
    else
      ((fX8_soonest N R I b0 v1 v2 v3 v4).bind fun y5 =>
      if (1440 : Int32) ≤ (v4 + (1 : Int32)) then
        (if y5.1 = (-1 : Int32) then
          (some (.inl ((v4 + 1), y5.2)))
        else
          ((R.1 b0 34).bind fun r8 =>
          (qwr y5.2 R r8 (y5.2 b0 33) v4).bind fun I9 =>
          qlet (qup I9 b0 33 ((I9 b0 33) + (1 : Int32))) fun I10 =>
          some (.inl ((v4 + 1), I10))))
      else
        ((fX8_soonest N R y5.2 b0 v1 v2 v3 (v4 + (1 : Int32))).bind fun y11 =>
        if y5.1 = (-1 : Int32) then
          (some (.inl ((v4 + 1), y11.2)))
        else
          (if y11.1 = (-1 : Int32) then
            ((R.1 b0 34).bind fun r14 =>
            (qwr y11.2 R r14 (y11.2 b0 33) v4).bind fun I15 =>
            qlet (qup I15 b0 33 ((I15 b0 33) + (1 : Int32))) fun I16 =>
            some (.inl ((v4 + 1), I16)))
          else
            (if y5.1 < y11.1 then
              ((R.1 b0 34).bind fun r18 =>
              (qwr y11.2 R r18 (y11.2 b0 33) v4).bind fun I19 =>
              qlet (qup I19 b0 33 ((I19 b0 33) + (1 : Int32))) fun I20 =>
              some (.inl ((v4 + 1), I20)))
            else
              (some (.inl ((v4 + 1), y11.2))))))))
set_option maxHeartbeats 4000000 in
set_option maxRecDepth 100000 in
theorem tX8_findDepartures_8 {l : Launch} {G : qG} {N : Nat} {R : qR} {As : List Value} {rv : Option Value} {I1 : qI} {b0 : Nat} {v1 : Int32} {v2 : Int32} {v3 : Int32} (hW : qWT R) (hb0 : qok R b0 8) {o : qI} (hx : AW (Zm l G mX8_findDepartures 4 As R rv I1 R) 117 [] [] o R) : ∀ n s, qloop (fun s => cX8_findDepartures_8 N R b0 v1 v2 v3 s.1 s.2) n s = some o → (match s with | (v4, I) => AW (Zm l G mX8_findDepartures 4 As R rv I1 R) 8 [(0, .ref (G.1 + b0)), (1, .int v1), (2, .int v2), (3, .int v3), (4, .int v4)] [] I R) := by
  apply qloop_ind
  intro s x hF hc he
  obtain ⟨v4, I⟩ := s
  change cX8_findDepartures_8 N R b0 v1 v2 v3 v4 I = some x at hF
  unfold cX8_findDepartures_8 at hF
  show AW _ 8 [(0, .ref (G.1 + b0)), (1, .int v1), (2, .int v2), (3, .int v3), (4, .int v4)] [] I R
  refine aw_iload dX8_findDepartures_8 4 rfl ?_
  refine aw_sipush (v := (1440 : Int32)) dX8_findDepartures_10 (by decide) ?_
  refine aw_icmp_ge (tgt := 117) dX8_findDepartures_13 (by decide) (fun c2 => ?_) (fun c2 => ?_)
  · rw [if_pos c2] at hF
    cases hF
    have hE := he _ rfl
    subst hE
    exact aw_sub [] rfl hx
  · rw [if_neg c2] at hF
    refine aw_aload_n dX8_findDepartures_16 0 rfl rfl ?_
    refine aw_iload_n dX8_findDepartures_17 1 rfl rfl ?_
    refine aw_iload_n dX8_findDepartures_18 3 rfl rfl ?_
    refine aw_iload dX8_findDepartures_19 4 rfl ?_
    obtain ⟨y3, ey3, hF⟩ := qbind hF
    refine aw_callVi (As := [.int v1, .int v3, .int v4]) (sX8_isGone hW hb0 ey3) cl_X8_231 rfl (qroomL (by decide) (by decide)) rfl hb0 (Nat.le_of_ble_eq_true rfl) dX8_findDepartures_21 rfl ?_
    refine aw_if_ne (tgt := 30) dX8_findDepartures_24 (by decide) (fun c4 => ?_) (fun c4 => ?_)
    · rw [if_neg c4] at hF
      refine aw_aload_n dX8_findDepartures_30 0 rfl rfl ?_
      refine aw_iload_n dX8_findDepartures_31 1 rfl rfl ?_
      refine aw_iload_n dX8_findDepartures_32 2 rfl rfl ?_
      refine aw_iload_n dX8_findDepartures_33 3 rfl rfl ?_
      refine aw_iload dX8_findDepartures_34 4 rfl ?_
      obtain ⟨y5, ey5, hF⟩ := qbind hF
      refine aw_callVi (As := [.int v1, .int v2, .int v3, .int v4]) (sX8_soonest hW hb0 ey5) cl_X8_204 rfl (qroomL (by decide) (by decide)) rfl hb0 (Nat.le_of_ble_eq_true rfl) dX8_findDepartures_36 rfl ?_
      refine aw_istore (lv' := [(5, .int y5.1), (0, .ref (G.1 + b0)), (1, .int v1), (2, .int v2), (3, .int v3), (4, .int v4)]) dX8_findDepartures_39 (Nat.le_of_ble_eq_true rfl) rfl ?_
      refine aw_iload dX8_findDepartures_41 5 rfl ?_
      refine aw_iconst (v := (1 : Int32)) dX8_findDepartures_43 (by decide) ?_
      refine aw_iadd dX8_findDepartures_44 ?_
      refine aw_sipush (v := (1440 : Int32)) dX8_findDepartures_45 (by decide) ?_
      refine aw_icmp_ge (tgt := 65) dX8_findDepartures_48 (by decide) (fun c6 => ?_) (fun c6 => ?_)
      · rw [if_pos c6] at hF
        refine aw_iconst (v := (-1 : Int32)) dX8_findDepartures_65 (by decide) ?_
        refine aw_istore (lv' := [(6, .int (-1 : Int32)), (5, .int y5.1), (0, .ref (G.1 + b0)), (1, .int v1), (2, .int v2), (3, .int v3), (4, .int v4)]) dX8_findDepartures_66 (Nat.le_of_ble_eq_true rfl) rfl ?_
        refine aw_iload dX8_findDepartures_68 1 rfl ?_
        refine aw_iconst (v := (-1 : Int32)) dX8_findDepartures_70 (by decide) ?_
        refine aw_icmp_eq (tgt := 111) dX8_findDepartures_71 (by decide) (fun c7 => ?_) (fun c7 => ?_)
        · rw [if_pos c7] at hF
          refine aw_iinc (q := 6) (v := (v4 + 1)) (lv' := [(4, .int (v4 + 1)), (6, .int (-1 : Int32)), (5, .int y5.1), (0, .ref (G.1 + b0)), (1, .int v1), (2, .int v2), (3, .int v3)]) dX8_findDepartures_111 rfl rfl (Nat.le_of_ble_eq_true rfl) rfl ?_
          refine aw_goto (tgt := 8) dX8_findDepartures_114 (by decide) ?_
          cases hF
          exact aw_sub [3, 4, 5, 6, 0] rfl (hc ((v4 + 1), y5.2) rfl)
        · rw [if_neg c7] at hF
          refine aw_iload dX8_findDepartures_74 0 rfl ?_
          refine aw_iconst (v := (-1 : Int32)) dX8_findDepartures_76 (by decide) ?_
          refine aw_icmp_eq (tgt := 90) dX8_findDepartures_77 (by decide) (fun c => ?_) (fun c => absurd c (by decide))
          refine aw_aload_n dX8_findDepartures_90 2 rfl rfl ?_
          obtain ⟨r8, er8, hF⟩ := qbind hF
          have kr8 : qok R r8 9 := hW.get hb0 er8 rfl
          refine aw_getr fl_X8_91 (by decide) fg_X8_34 hb0 er8 rfl dX8_findDepartures_91 ?_
          refine aw_aload_n dX8_findDepartures_94 2 rfl rfl ?_
          refine aw_geti fl_X8_228 (by decide) fg_X8_33 hb0 rfl dX8_findDepartures_95 ?_
          refine aw_iload dX8_findDepartures_98 6 rfl ?_
          obtain ⟨I9, eI9, hF⟩ := qbind hF
          refine aw_iastq kr8 eI9 dX8_findDepartures_100 ?_
          refine aw_aload_n dX8_findDepartures_101 2 rfl rfl ?_
          refine aw_aload_n dX8_findDepartures_102 2 rfl rfl ?_
          refine aw_geti fl_X8_228 (by decide) fg_X8_33 hb0 rfl dX8_findDepartures_103 ?_
          refine aw_iconst (v := (1 : Int32)) dX8_findDepartures_106 (by decide) ?_
          refine aw_iadd dX8_findDepartures_107 ?_
          obtain ⟨I10, eI10, hF⟩ := qletE hF
          refine aw_putiq fl_X8_228 (by decide) fs_X8_33 fn_X8_33 ft_X8_33 hb0 eI10 rfl dX8_findDepartures_108 ?_
          refine aw_iinc (q := 6) (v := (v4 + 1)) (lv' := [(4, .int (v4 + 1)), (6, .int (-1 : Int32)), (5, .int y5.1), (0, .ref (G.1 + b0)), (1, .int v1), (2, .int v2), (3, .int v3)]) dX8_findDepartures_111 rfl rfl (Nat.le_of_ble_eq_true rfl) rfl ?_
          refine aw_goto (tgt := 8) dX8_findDepartures_114 (by decide) ?_
          cases hF
          exact aw_sub [3, 4, 5, 6, 0] rfl (hc ((v4 + 1), I10) rfl)
      · rw [if_neg c6] at hF
        refine aw_aload_n dX8_findDepartures_51 1 rfl rfl ?_
        refine aw_iload_n dX8_findDepartures_52 2 rfl rfl ?_
        refine aw_iload_n dX8_findDepartures_53 3 rfl rfl ?_
        refine aw_iload_n dX8_findDepartures_54 4 rfl rfl ?_
        refine aw_iload dX8_findDepartures_55 5 rfl ?_
        refine aw_iconst (v := (1 : Int32)) dX8_findDepartures_57 (by decide) ?_
        refine aw_iadd dX8_findDepartures_58 ?_
        obtain ⟨y11, ey11, hF⟩ := qbind hF
        refine aw_callVi (As := [.int v1, .int v2, .int v3, .int (v4 + (1 : Int32))]) (sX8_soonest hW hb0 ey11) cl_X8_204 rfl (qroomL (by decide) (by decide)) rfl hb0 (Nat.le_of_ble_eq_true rfl) dX8_findDepartures_59 rfl ?_
        refine aw_goto (tgt := 66) dX8_findDepartures_62 (by decide) ?_
        refine aw_istore (lv' := [(6, .int y11.1), (5, .int y5.1), (0, .ref (G.1 + b0)), (1, .int v1), (2, .int v2), (3, .int v3), (4, .int v4)]) dX8_findDepartures_66 (Nat.le_of_ble_eq_true rfl) rfl ?_
        refine aw_iload dX8_findDepartures_68 1 rfl ?_
        refine aw_iconst (v := (-1 : Int32)) dX8_findDepartures_70 (by decide) ?_
        refine aw_icmp_eq (tgt := 111) dX8_findDepartures_71 (by decide) (fun c12 => ?_) (fun c12 => ?_)
        · rw [if_pos c12] at hF
          refine aw_iinc (q := 6) (v := (v4 + 1)) (lv' := [(4, .int (v4 + 1)), (6, .int y11.1), (5, .int y5.1), (0, .ref (G.1 + b0)), (1, .int v1), (2, .int v2), (3, .int v3)]) dX8_findDepartures_111 rfl rfl (Nat.le_of_ble_eq_true rfl) rfl ?_
          refine aw_goto (tgt := 8) dX8_findDepartures_114 (by decide) ?_
          cases hF
          exact aw_sub [3, 4, 5, 6, 0] rfl (hc ((v4 + 1), y11.2) rfl)
        · rw [if_neg c12] at hF
          refine aw_iload dX8_findDepartures_74 0 rfl ?_
          refine aw_iconst (v := (-1 : Int32)) dX8_findDepartures_76 (by decide) ?_
          refine aw_icmp_eq (tgt := 90) dX8_findDepartures_77 (by decide) (fun c13 => ?_) (fun c13 => ?_)
          · rw [if_pos c13] at hF
            refine aw_aload_n dX8_findDepartures_90 2 rfl rfl ?_
            obtain ⟨r14, er14, hF⟩ := qbind hF
            have kr14 : qok R r14 9 := hW.get hb0 er14 rfl
            refine aw_getr fl_X8_91 (by decide) fg_X8_34 hb0 er14 rfl dX8_findDepartures_91 ?_
            refine aw_aload_n dX8_findDepartures_94 2 rfl rfl ?_
            refine aw_geti fl_X8_228 (by decide) fg_X8_33 hb0 rfl dX8_findDepartures_95 ?_
            refine aw_iload dX8_findDepartures_98 6 rfl ?_
            obtain ⟨I15, eI15, hF⟩ := qbind hF
            refine aw_iastq kr14 eI15 dX8_findDepartures_100 ?_
            refine aw_aload_n dX8_findDepartures_101 2 rfl rfl ?_
            refine aw_aload_n dX8_findDepartures_102 2 rfl rfl ?_
            refine aw_geti fl_X8_228 (by decide) fg_X8_33 hb0 rfl dX8_findDepartures_103 ?_
            refine aw_iconst (v := (1 : Int32)) dX8_findDepartures_106 (by decide) ?_
            refine aw_iadd dX8_findDepartures_107 ?_
            obtain ⟨I16, eI16, hF⟩ := qletE hF
            refine aw_putiq fl_X8_228 (by decide) fs_X8_33 fn_X8_33 ft_X8_33 hb0 eI16 rfl dX8_findDepartures_108 ?_
            refine aw_iinc (q := 6) (v := (v4 + 1)) (lv' := [(4, .int (v4 + 1)), (6, .int y11.1), (5, .int y5.1), (0, .ref (G.1 + b0)), (1, .int v1), (2, .int v2), (3, .int v3)]) dX8_findDepartures_111 rfl rfl (Nat.le_of_ble_eq_true rfl) rfl ?_
            refine aw_goto (tgt := 8) dX8_findDepartures_114 (by decide) ?_
            cases hF
            exact aw_sub [3, 4, 5, 6, 0] rfl (hc ((v4 + 1), I16) rfl)
          · rw [if_neg c13] at hF
            refine aw_iload dX8_findDepartures_80 0 rfl ?_
            refine aw_iload dX8_findDepartures_82 1 rfl ?_
            refine aw_icmp_gt (tgt := 90) dX8_findDepartures_84 (by decide) (fun c17 => ?_) (fun c17 => ?_)
            · rw [if_pos c17] at hF
              refine aw_aload_n dX8_findDepartures_90 2 rfl rfl ?_
              obtain ⟨r18, er18, hF⟩ := qbind hF
              have kr18 : qok R r18 9 := hW.get hb0 er18 rfl
              refine aw_getr fl_X8_91 (by decide) fg_X8_34 hb0 er18 rfl dX8_findDepartures_91 ?_
              refine aw_aload_n dX8_findDepartures_94 2 rfl rfl ?_
              refine aw_geti fl_X8_228 (by decide) fg_X8_33 hb0 rfl dX8_findDepartures_95 ?_
              refine aw_iload dX8_findDepartures_98 6 rfl ?_
              obtain ⟨I19, eI19, hF⟩ := qbind hF
              refine aw_iastq kr18 eI19 dX8_findDepartures_100 ?_
              refine aw_aload_n dX8_findDepartures_101 2 rfl rfl ?_
              refine aw_aload_n dX8_findDepartures_102 2 rfl rfl ?_
              refine aw_geti fl_X8_228 (by decide) fg_X8_33 hb0 rfl dX8_findDepartures_103 ?_
              refine aw_iconst (v := (1 : Int32)) dX8_findDepartures_106 (by decide) ?_
              refine aw_iadd dX8_findDepartures_107 ?_
              obtain ⟨I20, eI20, hF⟩ := qletE hF
              refine aw_putiq fl_X8_228 (by decide) fs_X8_33 fn_X8_33 ft_X8_33 hb0 eI20 rfl dX8_findDepartures_108 ?_
              refine aw_iinc (q := 6) (v := (v4 + 1)) (lv' := [(4, .int (v4 + 1)), (6, .int y11.1), (5, .int y5.1), (0, .ref (G.1 + b0)), (1, .int v1), (2, .int v2), (3, .int v3)]) dX8_findDepartures_111 rfl rfl (Nat.le_of_ble_eq_true rfl) rfl ?_
              refine aw_goto (tgt := 8) dX8_findDepartures_114 (by decide) ?_
              cases hF
              exact aw_sub [3, 4, 5, 6, 0] rfl (hc ((v4 + 1), I20) rfl)
            · rw [if_neg c17] at hF
              refine aw_goto (tgt := 111) dX8_findDepartures_87 (by decide) ?_
              refine aw_iinc (q := 6) (v := (v4 + 1)) (lv' := [(4, .int (v4 + 1)), (6, .int y11.1), (5, .int y5.1), (0, .ref (G.1 + b0)), (1, .int v1), (2, .int v2), (3, .int v3)]) dX8_findDepartures_111 rfl rfl (Nat.le_of_ble_eq_true rfl) rfl ?_
              refine aw_goto (tgt := 8) dX8_findDepartures_114 (by decide) ?_
              cases hF
              exact aw_sub [3, 4, 5, 6, 0] rfl (hc ((v4 + 1), y11.2) rfl)
    · rw [if_pos c4] at hF
      refine aw_goto (tgt := 111) dX8_findDepartures_27 (by decide) ?_
      refine aw_iinc (q := 4) (v := (v4 + 1)) (lv' := [(4, .int (v4 + 1)), (0, .ref (G.1 + b0)), (1, .int v1), (2, .int v2), (3, .int v3)]) dX8_findDepartures_111 rfl rfl (Nat.le_of_ble_eq_true rfl) rfl ?_
      refine aw_goto (tgt := 8) dX8_findDepartures_114 (by decide) ?_
      cases hF
      exact aw_sub [1, 2, 3, 4, 0] rfl (hc ((v4 + 1), I) rfl)
def fX8_findDepartures (N : Nat) (R : qR) (I : qI) (a0 : Nat) (p1 : Int32) (p2 : Int32) (p3 : Int32) : Option (qI) :=
  qlet (qup I a0 33 (0 : Int32)) fun I1 =>
  (qloop (fun s => cX8_findDepartures_8 N R a0 p1 p2 p3 s.1 s.2) N ((0 : Int32), I1)).bind fun o21 =>
  some o21
set_option maxHeartbeats 4000000 in
set_option maxRecDepth 100000 in
theorem sX8_findDepartures {l : Launch} {G : qG} {N : Nat} {R : qR} {I : qI} {a0 : Nat} {p1 : Int32} {p2 : Int32} {p3 : Int32} {rI : qI} (hW : qWT R) (ha0 : qok R a0 8) (hF : fX8_findDepartures N R I a0 p1 p2 p3 = some rI) : qMt l G mX8_findDepartures 4 [.ref (G.1 + a0), .int p1, .int p2, .int p3] I R (none) rI R := by
  unfold fX8_findDepartures at hF
  refine qMt_of (by decide) (Nat.le_of_ble_eq_true rfl) ⟨Nat.le_refl _, Nat.le_refl _⟩ ?_
  show AW _ 0 [(0, .ref (G.1 + a0)), (1, .int p1), (2, .int p2), (3, .int p3)] [] I R
  refine aw_aload_n dX8_findDepartures_0 0 rfl rfl ?_
  refine aw_iconst (v := (0 : Int32)) dX8_findDepartures_1 (by decide) ?_
  obtain ⟨I1, eI1, hF⟩ := qletE hF
  refine aw_putiq fl_X8_228 (by decide) fs_X8_33 fn_X8_33 ft_X8_33 ha0 eI1 rfl dX8_findDepartures_2 ?_
  refine aw_iconst (v := (0 : Int32)) dX8_findDepartures_5 (by decide) ?_
  refine aw_istore (lv' := [(4, .int (0 : Int32)), (0, .ref (G.1 + a0)), (1, .int p1), (2, .int p2), (3, .int p3)]) dX8_findDepartures_6 (Nat.le_of_ble_eq_true rfl) rfl ?_
  obtain ⟨o21, eo21, hF⟩ := qbind hF
  refine aw_sub [1, 2, 3, 4, 0] rfl (tX8_findDepartures_8 hW ha0 (o := o21) ?_ N ((0 : Int32), I1) eo21)
  show AW _ 117 [] [] o21 R
  cases hF
  exact aw_vret rfl dX8_findDepartures_117 rfl rfl rfl
