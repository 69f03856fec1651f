def cX8_table_34 (N : Nat) (R : qR) (I : qI) (b0 : Nat) (v1 : Int32) (v2 : Int32) : Option ((Int32) ⊕ ((Unit) ⊕ (Int32 × qI))) :=
  if (I b0 1) ≤ v2 then
    (some (.inr (.inl ())))
  else
    (if ((v1 >>> (v2 &&& 31)) &&& (1 : Int32)) = (1 : Int32) then
      ((R.1 b0 4).bind fun r8 =>
      (qrd I R r8 v2).bind fun x9 =>
      if (2 : Int32) ≤ x9 then
        (some (.inl (v2 + 1)))
      else
        (some (.inr (.inr ((-1 : Int32), I)))))
    else
      (some (.inl (v2 + 1))))
set_option maxHeartbeats 4000000 in
set_option maxRecDepth 100000 in
theorem tX8_table_34 {l : Launch} {G : qG} {N : Nat} {R : qR} {I : qI} {As : List Value} {rv : Option Value} {I1 : qI} {b0 : Nat} {v1 : Int32} (hW : qWT R) (hb0 : qok R b0 8) {o : (Unit) ⊕ (Int32 × qI)} (hx : match o with | .inl _ => AW (Zm l G mX8_table 5 As R rv I1 R) 69 [(0, .ref (G.1 + b0)), (1, .int v1)] [] I R | .inr (rrv, rrI) => rv = some (.int rrv) ∧ I1 = rrI) : ∀ n s, qloop (fun s => cX8_table_34 N R I b0 v1 s) n s = some o → AW (Zm l G mX8_table 5 As R rv I1 R) 34 [(0, .ref (G.1 + b0)), (1, .int v1), (2, .int s)] [] I R := by
  apply qloop_ind
  intro s x hF hc he
  obtain ⟨v2, rfl⟩ : ∃ z, z = s := ⟨s, rfl⟩
  change cX8_table_34 N R I b0 v1 v2 = some x at hF
  unfold cX8_table_34 at hF
  show AW _ 34 [(0, .ref (G.1 + b0)), (1, .int v1), (2, .int v2)] [] I R
  refine aw_iload_n dX8_table_34 2 rfl rfl ?_
  refine aw_aload_n dX8_table_35 0 rfl rfl ?_
  refine aw_geti fl_X8_97 (by decide) fg_X8_1 hb0 rfl dX8_table_36 ?_
  refine aw_icmp_ge (tgt := 69) dX8_table_39 (by decide) (fun c6 => ?_) (fun c6 => ?_)
  · rw [if_pos c6] at hF
    cases hF
    have hE := he _ rfl
    subst hE
    exact aw_sub [0, 1] rfl hx
  · rw [if_neg c6] at hF
    refine aw_iload_n dX8_table_42 1 rfl rfl ?_
    refine aw_iload_n dX8_table_43 2 rfl rfl ?_
    refine aw_ishr dX8_table_44 ?_
    refine aw_iconst (v := (1 : Int32)) dX8_table_45 (by decide) ?_
    refine aw_iand dX8_table_46 ?_
    refine aw_iconst (v := (1 : Int32)) dX8_table_47 (by decide) ?_
    refine aw_icmp_ne (tgt := 63) dX8_table_48 (by decide) (fun c7 => ?_) (fun c7 => ?_)
    · rw [if_neg c7] at hF
      refine aw_iinc (q := 2) (v := (v2 + 1)) (lv' := [(2, .int (v2 + 1)), (0, .ref (G.1 + b0)), (1, .int v1)]) dX8_table_63 rfl rfl (Nat.le_of_ble_eq_true rfl) rfl ?_
      refine aw_goto (tgt := 34) dX8_table_66 (by decide) ?_
      cases hF
      exact aw_sub [1, 2, 0] rfl (hc (v2 + 1) rfl)
    · rw [if_pos c7] at hF
      refine aw_aload_n dX8_table_51 0 rfl rfl ?_
      obtain ⟨r8, er8, hF⟩ := qbind hF
      have kr8 : qok R r8 9 := hW.get hb0 er8 rfl
      refine aw_getr fl_X8_17 (by decide) fg_X8_4 hb0 er8 rfl dX8_table_52 ?_
      refine aw_iload_n dX8_table_55 2 rfl rfl ?_
      obtain ⟨x9, ex9, hF⟩ := qbind hF
      refine aw_ialdq kr8 ex9 dX8_table_56 ?_
      refine aw_iconst (v := (2 : Int32)) dX8_table_57 (by decide) ?_
      refine aw_icmp_ge (tgt := 63) dX8_table_58 (by decide) (fun c10 => ?_) (fun c10 => ?_)
      · rw [if_pos c10] at hF
        refine aw_iinc (q := 2) (v := (v2 + 1)) (lv' := [(2, .int (v2 + 1)), (0, .ref (G.1 + b0)), (1, .int v1)]) dX8_table_63 rfl rfl (Nat.le_of_ble_eq_true rfl) rfl ?_
        refine aw_goto (tgt := 34) dX8_table_66 (by decide) ?_
        cases hF
        exact aw_sub [1, 2, 0] rfl (hc (v2 + 1) rfl)
      · rw [if_neg c10] at hF
        refine aw_iconst (v := (-1 : Int32)) dX8_table_61 (by decide) ?_
        cases hF
        have hE := he _ rfl
        subst hE
        exact aw_iret rfl dX8_table_62 hx.1 hx.2 rfl
def cX8_table_122 (N : Nat) (R : qR) (b0 : Nat) (v1 : Int32) (v2 : Int32) (v3 : Int32) (I : qI) : Option ((Int32 × qI) ⊕ (qI)) :=
  (R.1 b0 4).bind fun r23 =>
  (qrd I R r23 v2).bind fun x24 =>
  if x24 ≤ v3 then
    (some (.inr I))
  else
    ((R.1 b0 14).bind fun r26 =>
    (R.1 b0 5).bind fun r27 =>
    (qrd I R r27 (((7 : Int32) * v2) + v3)).bind fun x28 =>
    (qwr I R r26 (((7 : Int32) * (I b0 10)) + v3) x28).bind fun I29 =>
    (R.1 b0 15).bind fun r30 =>
    (R.1 b0 6).bind fun r31 =>
    (qrd I29 R r31 (((7 : Int32) * v2) + v3)).bind fun x32 =>
    (qwr I29 R r30 (((7 : Int32) * (I29 b0 10)) + v3) x32).bind fun I33 =>
    (R.1 b0 16).bind fun r34 =>
    (R.1 b0 7).bind fun r35 =>
    (qrd I33 R r35 (((7 : Int32) * v2) + v3)).bind fun x36 =>
    (qwr I33 R r34 (((7 : Int32) * (I33 b0 10)) + v3) x36).bind fun I37 =>
    some (.inl ((v3 + 1), I37)))
set_option maxHeartbeats 4000000 in
set_option maxRecDepth 100000 in
theorem tX8_table_122 {l : Launch} {G : qG} {N : Nat} {R : qR} {As : List Value} {rv : Option Value} {I1 : qI} {b0 : Nat} {v1 : Int32} {v2 : Int32} (hW : qWT R) (hb0 : qok R b0 8) {o : qI} (hx : AW (Zm l G mX8_table 5 As R rv I1 R) 213 [(0, .ref (G.1 + b0)), (1, .int v1), (2, .int v2)] [] o R) : ∀ n s, qloop (fun s => cX8_table_122 N R b0 v1 v2 s.1 s.2) n s = some o → (match s with | (v3, I) => AW (Zm l G mX8_table 5 As R rv I1 R) 122 [(0, .ref (G.1 + b0)), (1, .int v1), (2, .int v2), (3, .int v3)] [] I R) := by
  apply qloop_ind
  intro s x hF hc he
  obtain ⟨v3, I⟩ := s
  change cX8_table_122 N R b0 v1 v2 v3 I = some x at hF
  unfold cX8_table_122 at hF
  show AW _ 122 [(0, .ref (G.1 + b0)), (1, .int v1), (2, .int v2), (3, .int v3)] [] I R
  refine aw_iload_n dX8_table_122 3 rfl rfl ?_
  refine aw_aload_n dX8_table_123 0 rfl rfl ?_
  obtain ⟨r23, er23, hF⟩ := qbind hF
  have kr23 : qok R r23 9 := hW.get hb0 er23 rfl
  refine aw_getr fl_X8_17 (by decide) fg_X8_4 hb0 er23 rfl dX8_table_124 ?_
  refine aw_iload_n dX8_table_127 2 rfl rfl ?_
  obtain ⟨x24, ex24, hF⟩ := qbind hF
  refine aw_ialdq kr23 ex24 dX8_table_128 ?_
  refine aw_icmp_ge (tgt := 213) dX8_table_129 (by decide) (fun c25 => ?_) (fun c25 => ?_)
  · rw [if_pos c25] at hF
    cases hF
    have hE := he _ rfl
    subst hE
    exact aw_sub [0, 1, 2] rfl hx
  · rw [if_neg c25] at hF
    refine aw_aload_n dX8_table_132 0 rfl rfl ?_
    obtain ⟨r26, er26, hF⟩ := qbind hF
    have kr26 : qok R r26 9 := hW.get hb0 er26 rfl
    refine aw_getr fl_X8_41 (by decide) fg_X8_14 hb0 er26 rfl dX8_table_133 ?_
    refine aw_bipush (v := (7 : Int32)) dX8_table_136 (by decide) ?_
    refine aw_aload_n dX8_table_138 0 rfl rfl ?_
    refine aw_geti fl_X8_120 (by decide) fg_X8_10 hb0 rfl dX8_table_139 ?_
    refine aw_imul dX8_table_142 ?_
    refine aw_iload_n dX8_table_143 3 rfl rfl ?_
    refine aw_iadd dX8_table_144 ?_
    refine aw_aload_n dX8_table_145 0 rfl rfl ?_
    obtain ⟨r27, er27, hF⟩ := qbind hF
    have kr27 : qok R r27 9 := hW.get hb0 er27 rfl
    refine aw_getr fl_X8_20 (by decide) fg_X8_5 hb0 er27 rfl dX8_table_146 ?_
    refine aw_bipush (v := (7 : Int32)) dX8_table_149 (by decide) ?_
    refine aw_iload_n dX8_table_151 2 rfl rfl ?_
    refine aw_imul dX8_table_152 ?_
    refine aw_iload_n dX8_table_153 3 rfl rfl ?_
    refine aw_iadd dX8_table_154 ?_
    obtain ⟨x28, ex28, hF⟩ := qbind hF
    refine aw_ialdq kr27 ex28 dX8_table_155 ?_
    obtain ⟨I29, eI29, hF⟩ := qbind hF
    refine aw_iastq kr26 eI29 dX8_table_156 ?_
    refine aw_aload_n dX8_table_157 0 rfl rfl ?_
    obtain ⟨r30, er30, hF⟩ := qbind hF
    have kr30 : qok R r30 9 := hW.get hb0 er30 rfl
    refine aw_getr fl_X8_44 (by decide) fg_X8_15 hb0 er30 rfl dX8_table_158 ?_
    refine aw_bipush (v := (7 : Int32)) dX8_table_161 (by decide) ?_
    refine aw_aload_n dX8_table_163 0 rfl rfl ?_
    refine aw_geti fl_X8_120 (by decide) fg_X8_10 hb0 rfl dX8_table_164 ?_
    refine aw_imul dX8_table_167 ?_
    refine aw_iload_n dX8_table_168 3 rfl rfl ?_
    refine aw_iadd dX8_table_169 ?_
    refine aw_aload_n dX8_table_170 0 rfl rfl ?_
    obtain ⟨r31, er31, hF⟩ := qbind hF
    have kr31 : qok R r31 9 := hW.get hb0 er31 rfl
    refine aw_getr fl_X8_23 (by decide) fg_X8_6 hb0 er31 rfl dX8_table_171 ?_
    refine aw_bipush (v := (7 : Int32)) dX8_table_174 (by decide) ?_
    refine aw_iload_n dX8_table_176 2 rfl rfl ?_
    refine aw_imul dX8_table_177 ?_
    refine aw_iload_n dX8_table_178 3 rfl rfl ?_
    refine aw_iadd dX8_table_179 ?_
    obtain ⟨x32, ex32, hF⟩ := qbind hF
    refine aw_ialdq kr31 ex32 dX8_table_180 ?_
    obtain ⟨I33, eI33, hF⟩ := qbind hF
    refine aw_iastq kr30 eI33 dX8_table_181 ?_
    refine aw_aload_n dX8_table_182 0 rfl rfl ?_
    obtain ⟨r34, er34, hF⟩ := qbind hF
    have kr34 : qok R r34 9 := hW.get hb0 er34 rfl
    refine aw_getr fl_X8_47 (by decide) fg_X8_16 hb0 er34 rfl dX8_table_183 ?_
    refine aw_bipush (v := (7 : Int32)) dX8_table_186 (by decide) ?_
    refine aw_aload_n dX8_table_188 0 rfl rfl ?_
    refine aw_geti fl_X8_120 (by decide) fg_X8_10 hb0 rfl dX8_table_189 ?_
    refine aw_imul dX8_table_192 ?_
    refine aw_iload_n dX8_table_193 3 rfl rfl ?_
    refine aw_iadd dX8_table_194 ?_
    refine aw_aload_n dX8_table_195 0 rfl rfl ?_
    obtain ⟨r35, er35, hF⟩ := qbind hF
    have kr35 : qok R r35 9 := hW.get hb0 er35 rfl
    refine aw_getr fl_X8_26 (by decide) fg_X8_7 hb0 er35 rfl dX8_table_196 ?_
    refine aw_bipush (v := (7 : Int32)) dX8_table_199 (by decide) ?_
    refine aw_iload_n dX8_table_201 2 rfl rfl ?_
    refine aw_imul dX8_table_202 ?_
    refine aw_iload_n dX8_table_203 3 rfl rfl ?_
    refine aw_iadd dX8_table_204 ?_
    obtain ⟨x36, ex36, hF⟩ := qbind hF
    refine aw_ialdq kr35 ex36 dX8_table_205 ?_
    obtain ⟨I37, eI37, hF⟩ := qbind hF
    refine aw_iastq kr34 eI37 dX8_table_206 ?_
    refine aw_iinc (q := 3) (v := (v3 + 1)) (lv' := [(3, .int (v3 + 1)), (0, .ref (G.1 + b0)), (1, .int v1), (2, .int v2)]) dX8_table_207 rfl rfl (Nat.le_of_ble_eq_true rfl) rfl ?_
    refine aw_goto (tgt := 122) dX8_table_210 (by decide) ?_
    cases hF
    exact aw_sub [1, 2, 3, 0] rfl (hc ((v3 + 1), I37) rfl)
def cX8_table_76 (N : Nat) (R : qR) (b0 : Nat) (v1 : Int32) (v2 : Int32) (I : qI) : Option ((Int32 × qI) ⊕ (qI)) :=
  if (I b0 1) ≤ v2 then
    (some (.inr I))
  else
    (if ((v1 >>> (v2 &&& 31)) &&& (1 : Int32)) = 0 then
      (some (.inl ((v2 + 1), I)))
    else
      ((R.1 b0 12).bind fun r17 =>
      (qwr I R r17 (I b0 10) v2).bind fun I18 =>
      (R.1 b0 13).bind fun r19 =>
      (R.1 b0 4).bind fun r20 =>
      (qrd I18 R r20 v2).bind fun x21 =>
      (qwr I18 R r19 (I18 b0 10) x21).bind fun I22 =>
      (qloop (fun s => cX8_table_122 N R b0 v1 v2 s.1 s.2) N ((0 : Int32), I22)).bind fun o38 =>
      qlet (qup o38 b0 10 ((o38 b0 10) + (1 : Int32))) fun I39 =>
      some (.inl ((v2 + 1), I39))))
set_option maxHeartbeats 4000000 in
set_option maxRecDepth 100000 in
theorem tX8_table_76 {l : Launch} {G : qG} {N : Nat} {R : qR} {As : List Value} {rv : Option Value} {I1 : qI} {b0 : Nat} {v1 : Int32} (hW : qWT R) (hb0 : qok R b0 8) {o : qI} (hx : AW (Zm l G mX8_table 5 As R rv I1 R) 229 [(0, .ref (G.1 + b0))] [] o R) : ∀ n s, qloop (fun s => cX8_table_76 N R b0 v1 s.1 s.2) n s = some o → (match s with | (v2, I) => AW (Zm l G mX8_table 5 As R rv I1 R) 76 [(0, .ref (G.1 + b0)), (1, .int v1), (2, .int v2)] [] I R) := by
  apply qloop_ind
  intro s x hF hc he
  obtain ⟨v2, I⟩ := s
  change cX8_table_76 N R b0 v1 v2 I = some x at hF
  unfold cX8_table_76 at hF
  show AW _ 76 [(0, .ref (G.1 + b0)), (1, .int v1), (2, .int v2)] [] I R
  refine aw_iload_n dX8_table_76 2 rfl rfl ?_
  refine aw_aload_n dX8_table_77 0 rfl rfl ?_
  refine aw_geti fl_X8_97 (by decide) fg_X8_1 hb0 rfl dX8_table_78 ?_
  refine aw_icmp_ge (tgt := 229) dX8_table_81 (by decide) (fun c15 => ?_) (fun c15 => ?_)
  · rw [if_pos c15] at hF
    cases hF
    have hE := he _ rfl
    subst hE
    exact aw_sub [0] rfl hx
  · rw [if_neg c15] at hF
    refine aw_iload_n dX8_table_84 1 rfl rfl ?_
    refine aw_iload_n dX8_table_85 2 rfl rfl ?_
    refine aw_ishr dX8_table_86 ?_
    refine aw_iconst (v := (1 : Int32)) dX8_table_87 (by decide) ?_
    refine aw_iand dX8_table_88 ?_
    refine aw_if_ne (tgt := 95) dX8_table_89 (by decide) (fun c16 => ?_) (fun c16 => ?_)
    · rw [if_neg c16] at hF
      refine aw_aload_n dX8_table_95 0 rfl rfl ?_
      obtain ⟨r17, er17, hF⟩ := qbind hF
      have kr17 : qok R r17 9 := hW.get hb0 er17 rfl
      refine aw_getr fl_X8_35 (by decide) fg_X8_12 hb0 er17 rfl dX8_table_96 ?_
      refine aw_aload_n dX8_table_99 0 rfl rfl ?_
      refine aw_geti fl_X8_120 (by decide) fg_X8_10 hb0 rfl dX8_table_100 ?_
      refine aw_iload_n dX8_table_103 2 rfl rfl ?_
      obtain ⟨I18, eI18, hF⟩ := qbind hF
      refine aw_iastq kr17 eI18 dX8_table_104 ?_
      refine aw_aload_n dX8_table_105 0 rfl rfl ?_
      obtain ⟨r19, er19, hF⟩ := qbind hF
      have kr19 : qok R r19 9 := hW.get hb0 er19 rfl
      refine aw_getr fl_X8_38 (by decide) fg_X8_13 hb0 er19 rfl dX8_table_106 ?_
      refine aw_aload_n dX8_table_109 0 rfl rfl ?_
      refine aw_geti fl_X8_120 (by decide) fg_X8_10 hb0 rfl dX8_table_110 ?_
      refine aw_aload_n dX8_table_113 0 rfl rfl ?_
      obtain ⟨r20, er20, hF⟩ := qbind hF
      have kr20 : qok R r20 9 := hW.get hb0 er20 rfl
      refine aw_getr fl_X8_17 (by decide) fg_X8_4 hb0 er20 rfl dX8_table_114 ?_
      refine aw_iload_n dX8_table_117 2 rfl rfl ?_
      obtain ⟨x21, ex21, hF⟩ := qbind hF
      refine aw_ialdq kr20 ex21 dX8_table_118 ?_
      obtain ⟨I22, eI22, hF⟩ := qbind hF
      refine aw_iastq kr19 eI22 dX8_table_119 ?_
      refine aw_iconst (v := (0 : Int32)) dX8_table_120 (by decide) ?_
      refine aw_istore_n (lv' := [(3, .int (0 : Int32)), (0, .ref (G.1 + b0)), (1, .int v1), (2, .int v2)]) dX8_table_121 rfl (Nat.le_of_ble_eq_true rfl) rfl ?_
      obtain ⟨o38, eo38, hF⟩ := qbind hF
      refine aw_sub [1, 2, 3, 0] rfl (tX8_table_122 hW hb0 (o := o38) ?_ N ((0 : Int32), I22) eo38)
      show AW _ 213 [(0, .ref (G.1 + b0)), (1, .int v1), (2, .int v2)] [] o38 R
      refine aw_aload_n dX8_table_213 0 rfl rfl ?_
      refine aw_aload_n dX8_table_214 0 rfl rfl ?_
      refine aw_geti fl_X8_120 (by decide) fg_X8_10 hb0 rfl dX8_table_215 ?_
      refine aw_iconst (v := (1 : Int32)) dX8_table_218 (by decide) ?_
      refine aw_iadd dX8_table_219 ?_
      obtain ⟨I39, eI39, hF⟩ := qletE hF
      refine aw_putiq fl_X8_120 (by decide) fs_X8_10 fn_X8_10 ft_X8_10 hb0 eI39 rfl dX8_table_220 ?_
      refine aw_iinc (q := 2) (v := (v2 + 1)) (lv' := [(2, .int (v2 + 1)), (0, .ref (G.1 + b0)), (1, .int v1)]) dX8_table_223 rfl rfl (Nat.le_of_ble_eq_true rfl) rfl ?_
      refine aw_goto (tgt := 76) dX8_table_226 (by decide) ?_
      cases hF
      exact aw_sub [1, 2, 0] rfl (hc ((v2 + 1), I39) rfl)
    · rw [if_pos c16] at hF
      refine aw_goto (tgt := 223) dX8_table_92 (by decide) ?_
      refine aw_iinc (q := 2) (v := (v2 + 1)) (lv' := [(2, .int (v2 + 1)), (0, .ref (G.1 + b0)), (1, .int v1)]) dX8_table_223 rfl rfl (Nat.le_of_ble_eq_true rfl) rfl ?_
      refine aw_goto (tgt := 76) dX8_table_226 (by decide) ?_
      cases hF
      exact aw_sub [1, 2, 0] rfl (hc ((v2 + 1), I) rfl)
def fX8_table (N : Nat) (R : qR) (I : qI) (a0 : Nat) (p1 : Int32) : Option (Int32 × qI) :=
  qlet (qup I a0 0 (0 : Int32)) fun I1 =>
  if p1 < (1 : Int32) then
    (some ((-1 : Int32), I1))
  else
    (if ((1 : Int32) <<< ((I1 a0 1) &&& 31)) ≤ p1 then
      (some ((-1 : Int32), I1))
    else
      ((fX8_ones N R I1 a0 p1).bind fun y4 =>
      if y4 ≤ (6 : Int32) then
        ((qloop (fun s => cX8_table_34 N R I1 a0 p1 s) N (0 : Int32)).bind fun o11 =>
        qx o11 (fun e12 =>
          qlet (qup I1 a0 10 (0 : Int32)) fun I14 =>
          (qloop (fun s => cX8_table_76 N R a0 p1 s.1 s.2) N ((0 : Int32), I14)).bind fun o40 =>
          (fX8_findRows N R o40 a0).bind fun y41 =>
          (fX8_findColumns N R y41 a0).bind fun y42 =>
          (fX8_findLanes N R y42 a0).bind fun y43 =>
          some ((y43 a0 9), y43)) (fun q13 => some q13))
      else
        (some ((-1 : Int32), I1))))
set_option maxHeartbeats 4000000 in
set_option maxRecDepth 100000 in
theorem sX8_table {l : Launch} {G : qG} {N : Nat} {R : qR} {I : qI} {a0 : Nat} {p1 : Int32} {rv : Int32} {rI : qI} (hW : qWT R) (ha0 : qok R a0 8) (hF : fX8_table N R I a0 p1 = some (rv, rI)) : qMt l G mX8_table 5 [.ref (G.1 + a0), .int p1] I R (some (.int rv)) rI R := by
  unfold fX8_table at hF
  refine qMt_of (by decide) (Nat.le_of_ble_eq_true rfl) ⟨Nat.le_refl _, Nat.le_refl _⟩ ?_
  show AW _ 0 [(0, .ref (G.1 + a0)), (1, .int p1)] [] I R
  refine aw_aload_n dX8_table_0 0 rfl rfl ?_
  refine aw_iconst (v := (0 : Int32)) dX8_table_1 (by decide) ?_
  obtain ⟨I1, eI1, hF⟩ := qletE hF
  refine aw_putiq fl_X8_94 (by decide) fs_X8_0 fn_X8_0 ft_X8_0 ha0 eI1 rfl dX8_table_2 ?_
  refine aw_iload_n dX8_table_5 1 rfl rfl ?_
  refine aw_iconst (v := (1 : Int32)) dX8_table_6 (by decide) ?_
  refine aw_icmp_lt (tgt := 30) dX8_table_7 (by decide) (fun c2 => ?_) (fun c2 => ?_)
  · rw [if_pos c2] at hF
    refine aw_iconst (v := (-1 : Int32)) dX8_table_30 (by decide) ?_
    cases hF
    exact aw_iret rfl dX8_table_31 rfl rfl rfl
  · rw [if_neg c2] at hF
    refine aw_iload_n dX8_table_10 1 rfl rfl ?_
    refine aw_iconst (v := (1 : Int32)) dX8_table_11 (by decide) ?_
    refine aw_aload_n dX8_table_12 0 rfl rfl ?_
    refine aw_geti fl_X8_97 (by decide) fg_X8_1 ha0 rfl dX8_table_13 ?_
    refine aw_ishl dX8_table_16 ?_
    refine aw_icmp_ge (tgt := 30) dX8_table_17 (by decide) (fun c3 => ?_) (fun c3 => ?_)
    · rw [if_pos c3] at hF
      refine aw_iconst (v := (-1 : Int32)) dX8_table_30 (by decide) ?_
      cases hF
      exact aw_iret rfl dX8_table_31 rfl rfl rfl
    · rw [if_neg c3] at hF
      refine aw_aload_n dX8_table_20 0 rfl rfl ?_
      refine aw_iload_n dX8_table_21 1 rfl rfl ?_
      obtain ⟨y4, ey4, hF⟩ := qbind hF
      refine aw_callVi (As := [.int p1]) (sX8_ones hW ha0 ey4) cl_X8_123 rfl (qroomL (by decide) (by decide)) rfl ha0 (Nat.le_of_ble_eq_true rfl) dX8_table_22 rfl ?_
      refine aw_bipush (v := (6 : Int32)) dX8_table_25 (by decide) ?_
      refine aw_icmp_le (tgt := 32) dX8_table_27 (by decide) (fun c5 => ?_) (fun c5 => ?_)
      · rw [if_pos c5] at hF
        refine aw_iconst (v := (0 : Int32)) dX8_table_32 (by decide) ?_
        refine aw_istore_n (lv' := [(2, .int (0 : Int32)), (0, .ref (G.1 + a0)), (1, .int p1)]) dX8_table_33 rfl (Nat.le_of_ble_eq_true rfl) rfl ?_
        obtain ⟨o11, eo11, hF⟩ := qbind hF
        refine aw_sub [1, 2, 0] rfl (tX8_table_34 hW ha0 (o := o11) ?_ N (0 : Int32) eo11)
        cases o11 with
        | inl e12 =>
          replace hF := qxl hF
          show AW _ 69 [(0, .ref (G.1 + a0)), (1, .int p1)] [] I1 R
          refine aw_aload_n dX8_table_69 0 rfl rfl ?_
          refine aw_iconst (v := (0 : Int32)) dX8_table_70 (by decide) ?_
          obtain ⟨I14, eI14, hF⟩ := qletE hF
          refine aw_putiq fl_X8_120 (by decide) fs_X8_10 fn_X8_10 ft_X8_10 ha0 eI14 rfl dX8_table_71 ?_
          refine aw_iconst (v := (0 : Int32)) dX8_table_74 (by decide) ?_
          refine aw_istore_n (lv' := [(2, .int (0 : Int32)), (0, .ref (G.1 + a0)), (1, .int p1)]) dX8_table_75 rfl (Nat.le_of_ble_eq_true rfl) rfl ?_
          obtain ⟨o40, eo40, hF⟩ := qbind hF
          refine aw_sub [1, 2, 0] rfl (tX8_table_76 hW ha0 (o := o40) ?_ N ((0 : Int32), I14) eo40)
          show AW _ 229 [(0, .ref (G.1 + a0))] [] o40 R
          refine aw_aload_n dX8_table_229 0 rfl rfl ?_
          obtain ⟨y41, ey41, hF⟩ := qbind hF
          refine aw_callVv (As := []) (sX8_findRows hW ha0 ey41) cl_X8_167 rfl (qroomL (by decide) (by decide)) rfl ha0 (Nat.le_of_ble_eq_true rfl) dX8_table_230 rfl ?_
          refine aw_aload_n dX8_table_233 0 rfl rfl ?_
          obtain ⟨y42, ey42, hF⟩ := qbind hF
          refine aw_callVv (As := []) (sX8_findColumns hW ha0 ey42) cl_X8_170 rfl (qroomL (by decide) (by decide)) rfl ha0 (Nat.le_of_ble_eq_true rfl) dX8_table_234 rfl ?_
          refine aw_aload_n dX8_table_237 0 rfl rfl ?_
          obtain ⟨y43, ey43, hF⟩ := qbind hF
          refine aw_callVv (As := []) (sX8_findLanes hW ha0 ey43) cl_X8_173 rfl (qroomL (by decide) (by decide)) rfl ha0 (Nat.le_of_ble_eq_true rfl) dX8_table_238 rfl ?_
          refine aw_aload_n dX8_table_241 0 rfl rfl ?_
          refine aw_geti fl_X8_117 (by decide) fg_X8_9 ha0 rfl dX8_table_242 ?_
          cases hF
          exact aw_iret rfl dX8_table_245 rfl rfl rfl
        | inr q13 =>
          replace hF := qxr hF
          cases hF
          exact ⟨rfl, rfl⟩
      · rw [if_neg c5] at hF
        refine aw_iconst (v := (-1 : Int32)) dX8_table_30 (by decide) ?_
        cases hF
        exact aw_iret rfl dX8_table_31 rfl rfl rfl
def fX8_row (R : qR) (I : qI) (a0 : Nat) (p1 : Int32) : Option (Int32 × qI) :=
  qlet (qup I a0 0 (0 : Int32)) fun I1 =>
  if p1 < 0 then
    (some ((-1 : Int32), I1))
  else
    (if (I1 a0 9) ≤ p1 then
      (some ((-1 : Int32), I1))
    else
      ((R.1 a0 11).bind fun r4 =>
      (qrd I1 R r4 p1).bind fun x5 =>
      some (x5, I1)))
set_option maxHeartbeats 4000000 in
set_option maxRecDepth 100000 in
theorem sX8_row {l : Launch} {G : qG} {R : qR} {I : qI} {a0 : Nat} {p1 : Int32} {rv : Int32} {rI : qI} (hW : qWT R) (ha0 : qok R a0 8) (hF : fX8_row R I a0 p1 = some (rv, rI)) : qMt l G mX8_row 1 [.ref (G.1 + a0), .int p1] I R (some (.int rv)) rI R := by
  unfold fX8_row at hF
  refine qMt_of (by decide) (Nat.le_of_ble_eq_true rfl) ⟨Nat.le_refl _, Nat.le_refl _⟩ ?_
  show AW _ 0 [(0, .ref (G.1 + a0)), (1, .int p1)] [] I R
  refine aw_aload_n dX8_row_0 0 rfl rfl ?_
  refine aw_iconst (v := (0 : Int32)) dX8_row_1 (by decide) ?_
  obtain ⟨I1, eI1, hF⟩ := qletE hF
  refine aw_putiq fl_X8_94 (by decide) fs_X8_0 fn_X8_0 ft_X8_0 ha0 eI1 rfl dX8_row_2 ?_
  refine aw_iload_n dX8_row_5 1 rfl rfl ?_
  refine aw_if_lt (tgt := 26) dX8_row_6 (by decide) (fun c2 => ?_) (fun c2 => ?_)
  · rw [if_pos c2] at hF
    refine aw_iconst (v := (-1 : Int32)) dX8_row_26 (by decide) ?_
    cases hF
    exact aw_iret rfl dX8_row_27 rfl rfl rfl
  · rw [if_neg c2] at hF
    refine aw_iload_n dX8_row_9 1 rfl rfl ?_
    refine aw_aload_n dX8_row_10 0 rfl rfl ?_
    refine aw_geti fl_X8_117 (by decide) fg_X8_9 ha0 rfl dX8_row_11 ?_
    refine aw_icmp_ge (tgt := 26) dX8_row_14 (by decide) (fun c3 => ?_) (fun c3 => ?_)
    · rw [if_pos c3] at hF
      refine aw_iconst (v := (-1 : Int32)) dX8_row_26 (by decide) ?_
      cases hF
      exact aw_iret rfl dX8_row_27 rfl rfl rfl
    · rw [if_neg c3] at hF
      refine aw_aload_n dX8_row_17 0 rfl rfl ?_
      obtain ⟨r4, er4, hF⟩ := qbind hF
      have kr4 : qok R r4 9 := hW.get ha0 er4 rfl
      refine aw_getr fl_X8_32 (by decide) fg_X8_11 ha0 er4 rfl dX8_row_18 ?_
      refine aw_iload_n dX8_row_21 1 rfl rfl ?_
      obtain ⟨x5, ex5, hF⟩ := qbind hF
      refine aw_ialdq kr4 ex5 dX8_row_22 ?_
      refine aw_goto (tgt := 27) dX8_row_23 (by decide) ?_
      cases hF
      exact aw_iret rfl dX8_row_27 rfl rfl rfl
def fX8_isColumn (R : qR) (I : qI) (a0 : Nat) (p1 : Int32) : Option (Int32) :=
  if p1 < 0 then
    (some (0 : Int32))
  else
    (if (I a0 10) ≤ p1 then
      (some (0 : Int32))
    else
      (some (1 : Int32)))
set_option maxHeartbeats 4000000 in
set_option maxRecDepth 100000 in
theorem sX8_isColumn {l : Launch} {G : qG} {R : qR} {I : qI} {a0 : Nat} {p1 : Int32} {rv : Int32} (hW : qWT R) (ha0 : qok R a0 8) (hF : fX8_isColumn R I a0 p1 = some rv) : qMt l G mX8_isColumn 1 [.ref (G.1 + a0), .int p1] I R (some (.int rv)) I R := by
  unfold fX8_isColumn at hF
  refine qMt_of (by decide) (Nat.le_of_ble_eq_true rfl) ⟨Nat.le_refl _, Nat.le_refl _⟩ ?_
  show AW _ 0 [(0, .ref (G.1 + a0)), (1, .int p1)] [] I R
  refine aw_iload_n dX8_isColumn_0 1 rfl rfl ?_
  refine aw_if_lt (tgt := 16) dX8_isColumn_1 (by decide) (fun c1 => ?_) (fun c1 => ?_)
  · rw [if_pos c1] at hF
    refine aw_iconst (v := (0 : Int32)) dX8_isColumn_16 (by decide) ?_
    cases hF
    exact aw_zret rfl (by decide) dX8_isColumn_17 rfl rfl rfl
  · rw [if_neg c1] at hF
    refine aw_iload_n dX8_isColumn_4 1 rfl rfl ?_
    refine aw_aload_n dX8_isColumn_5 0 rfl rfl ?_
    refine aw_geti fl_X8_120 (by decide) fg_X8_10 ha0 rfl dX8_isColumn_6 ?_
    refine aw_icmp_ge (tgt := 16) dX8_isColumn_9 (by decide) (fun c2 => ?_) (fun c2 => ?_)
    · rw [if_pos c2] at hF
      refine aw_iconst (v := (0 : Int32)) dX8_isColumn_16 (by decide) ?_
      cases hF
      exact aw_zret rfl (by decide) dX8_isColumn_17 rfl rfl rfl
    · rw [if_neg c2] at hF
      refine aw_iconst (v := (1 : Int32)) dX8_isColumn_12 (by decide) ?_
      refine aw_goto (tgt := 17) dX8_isColumn_13 (by decide) ?_
      cases hF
      exact aw_zret rfl (by decide) dX8_isColumn_17 rfl rfl rfl
def fX8_column (R : qR) (I : qI) (a0 : Nat) (p1 : Int32) : Option (Int32 × qI) :=
  qlet (qup I a0 0 (0 : Int32)) fun I1 =>
  (fX8_isColumn R I1 a0 p1).bind fun y2 =>
  if y2 = 0 then
    (some ((-1 : Int32), I1))
  else
    ((R.1 a0 12).bind fun r4 =>
    (R.1 a0 18).bind fun r5 =>
    (qrd I1 R r5 p1).bind fun x6 =>
    (qrd I1 R r4 x6).bind fun x7 =>
    some (x7, I1))
set_option maxHeartbeats 4000000 in
set_option maxRecDepth 100000 in
theorem sX8_column {l : Launch} {G : qG} {R : qR} {I : qI} {a0 : Nat} {p1 : Int32} {rv : Int32} {rI : qI} (hW : qWT R) (ha0 : qok R a0 8) (hF : fX8_column R I a0 p1 = some (rv, rI)) : qMt l G mX8_column 2 [.ref (G.1 + a0), .int p1] I R (some (.int rv)) rI R := by
  unfold fX8_column at hF
  refine qMt_of (by decide) (Nat.le_of_ble_eq_true rfl) ⟨Nat.le_refl _, Nat.le_refl _⟩ ?_
  show AW _ 0 [(0, .ref (G.1 + a0)), (1, .int p1)] [] I R
  refine aw_aload_n dX8_column_0 0 rfl rfl ?_
  refine aw_iconst (v := (0 : Int32)) dX8_column_1 (by decide) ?_
  obtain ⟨I1, eI1, hF⟩ := qletE hF
  refine aw_putiq fl_X8_94 (by decide) fs_X8_0 fn_X8_0 ft_X8_0 ha0 eI1 rfl dX8_column_2 ?_
  refine aw_aload_n dX8_column_5 0 rfl rfl ?_
  refine aw_iload_n dX8_column_6 1 rfl rfl ?_
  obtain ⟨y2, ey2, hF⟩ := qbind hF
  refine aw_callVi (As := [.int p1]) (sX8_isColumn hW ha0 ey2) cl_X8_176 rfl (qroomL (by decide) (by decide)) rfl ha0 (Nat.le_of_ble_eq_true rfl) dX8_column_7 rfl ?_
  refine aw_if_eq (tgt := 27) dX8_column_10 (by decide) (fun c3 => ?_) (fun c3 => ?_)
  · rw [if_pos c3] at hF
    refine aw_iconst (v := (-1 : Int32)) dX8_column_27 (by decide) ?_
    cases hF
    exact aw_iret rfl dX8_column_28 rfl rfl rfl
  · rw [if_neg c3] at hF
    refine aw_aload_n dX8_column_13 0 rfl rfl ?_
    obtain ⟨r4, er4, hF⟩ := qbind hF
    have kr4 : qok R r4 9 := hW.get ha0 er4 rfl
    refine aw_getr fl_X8_35 (by decide) fg_X8_12 ha0 er4 rfl dX8_column_14 ?_
    refine aw_aload_n dX8_column_17 0 rfl rfl ?_
    obtain ⟨r5, er5, hF⟩ := qbind hF
    have kr5 : qok R r5 9 := hW.get ha0 er5 rfl
    refine aw_getr fl_X8_53 (by decide) fg_X8_18 ha0 er5 rfl dX8_column_18 ?_
    refine aw_iload_n dX8_column_21 1 rfl rfl ?_
    obtain ⟨x6, ex6, hF⟩ := qbind hF
    refine aw_ialdq kr5 ex6 dX8_column_22 ?_
    obtain ⟨x7, ex7, hF⟩ := qbind hF
    refine aw_ialdq kr4 ex7 dX8_column_23 ?_
    refine aw_goto (tgt := 28) dX8_column_24 (by decide) ?_
    cases hF
    exact aw_iret rfl dX8_column_28 rfl rfl rfl
def cX8_cell_48 (N : Nat) (R : qR) (I : qI) (b0 : Nat) (v1 : Int32) (v3 : Int32) (v4 : Int32) (v5 : Int32) : Option ((Int32) ⊕ ((Unit) ⊕ (Int32 × qI))) :=
  (R.1 b0 13).bind fun r10 =>
  (qrd I R r10 v4).bind fun x11 =>
  if x11 ≤ v5 then
    (some (.inr (.inl ())))
  else
    ((R.1 b0 17).bind fun r13 =>
    (qrd I R r13 (((7 : Int32) * v4) + v5)).bind fun x14 =>
    if x14 = v1 then
      (if v3 = 0 then
        ((R.1 b0 15).bind fun r19 =>
        (qrd I R r19 (((7 : Int32) * v4) + v5)).bind fun x20 =>
        some (.inr (.inr (x20, I))))
      else
        ((R.1 b0 16).bind fun r17 =>
        (qrd I R r17 (((7 : Int32) * v4) + v5)).bind fun x18 =>
        some (.inr (.inr (x18, I)))))
    else
      (some (.inl (v5 + 1))))
set_option maxHeartbeats 4000000 in
set_option maxRecDepth 100000 in
theorem tX8_cell_48 {l : Launch} {G : qG} {N : Nat} {R : qR} {I : qI} {As : List Value} {rv : Option Value} {I1 : qI} {b0 : Nat} {v1 : Int32} {v3 : Int32} {v4 : Int32} (hW : qWT R) (hb0 : qok R b0 8) {o : (Unit) ⊕ (Int32 × qI)} (hx : match o with | .inl _ => AW (Zm l G mX8_cell 2 As R rv I1 R) 117 [(0, .ref (G.1 + b0)), (1, .int v1), (4, .int v4)] [] I R | .inr (rrv, rrI) => rv = some (.int rrv) ∧ I1 = rrI) : ∀ n s, qloop (fun s => cX8_cell_48 N R I b0 v1 v3 v4 s) n s = some o → AW (Zm l G mX8_cell 2 As R rv I1 R) 48 [(0, .ref (G.1 + b0)), (1, .int v1), (3, .int v3), (4, .int v4), (5, .int s)] [] I R := by
  apply qloop_ind
  intro s x hF hc he
  obtain ⟨v5, rfl⟩ : ∃ z, z = s := ⟨s, rfl⟩
  change cX8_cell_48 N R I b0 v1 v3 v4 v5 = some x at hF
  unfold cX8_cell_48 at hF
  show AW _ 48 [(0, .ref (G.1 + b0)), (1, .int v1), (3, .int v3), (4, .int v4), (5, .int v5)] [] I R
  refine aw_iload dX8_cell_48 4 rfl ?_
  refine aw_aload_n dX8_cell_50 0 rfl rfl ?_
  obtain ⟨r10, er10, hF⟩ := qbind hF
  have kr10 : qok R r10 9 := hW.get hb0 er10 rfl
  refine aw_getr fl_X8_38 (by decide) fg_X8_13 hb0 er10 rfl dX8_cell_51 ?_
  refine aw_iload dX8_cell_54 3 rfl ?_
  obtain ⟨x11, ex11, hF⟩ := qbind hF
  refine aw_ialdq kr10 ex11 dX8_cell_56 ?_
  refine aw_icmp_ge (tgt := 117) dX8_cell_57 (by decide) (fun c12 => ?_) (fun c12 => ?_)
  · rw [if_pos c12] at hF
    cases hF
    have hE := he _ rfl
    subst hE
    exact aw_sub [0, 1, 3] rfl hx
  · rw [if_neg c12] at hF
    refine aw_aload_n dX8_cell_60 0 rfl rfl ?_
    obtain ⟨r13, er13, hF⟩ := qbind hF
    have kr13 : qok R r13 9 := hW.get hb0 er13 rfl
    refine aw_getr fl_X8_50 (by decide) fg_X8_17 hb0 er13 rfl dX8_cell_61 ?_
    refine aw_bipush (v := (7 : Int32)) dX8_cell_64 (by decide) ?_
    refine aw_iload dX8_cell_66 3 rfl ?_
    refine aw_imul dX8_cell_68 ?_
    refine aw_iload dX8_cell_69 4 rfl ?_
    refine aw_iadd dX8_cell_71 ?_
    obtain ⟨x14, ex14, hF⟩ := qbind hF
    refine aw_ialdq kr13 ex14 dX8_cell_72 ?_
    refine aw_iload_n dX8_cell_73 1 rfl rfl ?_
    refine aw_icmp_ne (tgt := 111) dX8_cell_74 (by decide) (fun c15 => ?_) (fun c15 => ?_)
    · rw [if_neg c15] at hF
      refine aw_iinc (q := 4) (v := (v5 + 1)) (lv' := [(5, .int (v5 + 1)), (0, .ref (G.1 + b0)), (1, .int v1), (3, .int v3), (4, .int v4)]) dX8_cell_111 rfl rfl (Nat.le_of_ble_eq_true rfl) rfl ?_
      refine aw_goto (tgt := 48) dX8_cell_114 (by decide) ?_
      cases hF
      exact aw_sub [1, 2, 3, 4, 0] rfl (hc (v5 + 1) rfl)
    · rw [if_pos c15] at hF
      refine aw_iload_n dX8_cell_77 2 rfl rfl ?_
      refine aw_if_ne (tgt := 97) dX8_cell_78 (by decide) (fun c16 => ?_) (fun c16 => ?_)
      · rw [if_neg c16] at hF
        refine aw_aload_n dX8_cell_97 0 rfl rfl ?_
        obtain ⟨r17, er17, hF⟩ := qbind hF
        have kr17 : qok R r17 9 := hW.get hb0 er17 rfl
        refine aw_getr fl_X8_47 (by decide) fg_X8_16 hb0 er17 rfl dX8_cell_98 ?_
        refine aw_bipush (v := (7 : Int32)) dX8_cell_101 (by decide) ?_
        refine aw_iload dX8_cell_103 3 rfl ?_
        refine aw_imul dX8_cell_105 ?_
        refine aw_iload dX8_cell_106 4 rfl ?_
        refine aw_iadd dX8_cell_108 ?_
        obtain ⟨x18, ex18, hF⟩ := qbind hF
        refine aw_ialdq kr17 ex18 dX8_cell_109 ?_
        cases hF
        have hE := he _ rfl
        subst hE
        exact aw_iret rfl dX8_cell_110 hx.1 hx.2 rfl
      · rw [if_pos c16] at hF
        refine aw_aload_n dX8_cell_81 0 rfl rfl ?_
        obtain ⟨r19, er19, hF⟩ := qbind hF
        have kr19 : qok R r19 9 := hW.get hb0 er19 rfl
        refine aw_getr fl_X8_44 (by decide) fg_X8_15 hb0 er19 rfl dX8_cell_82 ?_
        refine aw_bipush (v := (7 : Int32)) dX8_cell_85 (by decide) ?_
        refine aw_iload dX8_cell_87 3 rfl ?_
        refine aw_imul dX8_cell_89 ?_
        refine aw_iload dX8_cell_90 4 rfl ?_
        refine aw_iadd dX8_cell_92 ?_
        obtain ⟨x20, ex20, hF⟩ := qbind hF
        refine aw_ialdq kr19 ex20 dX8_cell_93 ?_
        refine aw_goto (tgt := 110) dX8_cell_94 (by decide) ?_
        cases hF
        have hE := he _ rfl
        subst hE
        exact aw_iret rfl dX8_cell_110 hx.1 hx.2 rfl
def fX8_cell (N : Nat) (R : qR) (I : qI) (a0 : Nat) (p1 : Int32) (p2 : Int32) (p3 : Int32) : Option (Int32 × qI) :=
  qlet (qup I a0 0 (0 : Int32)) fun I1 =>
  if p1 < 0 then
    (some ((-3 : Int32), I1))
  else
    (if (I1 a0 9) ≤ p1 then
      (some ((-3 : Int32), I1))
    else
      ((fX8_isColumn R I1 a0 p2).bind fun y4 =>
      if y4 = 0 then
        (some ((-3 : Int32), I1))
      else
        (if p3 < 0 then
          (some ((-3 : Int32), I1))
        else
          (if p3 ≤ (1 : Int32) then
            ((R.1 a0 18).bind fun r8 =>
            (qrd I1 R r8 p2).bind fun x9 =>
            (qloop (fun s => cX8_cell_48 N R I1 a0 p1 p3 x9 s) N (0 : Int32)).bind fun o21 =>
            qx o21 (fun e22 =>
              (fX8_first R I1 a0 x9).bind fun y24 =>
              if p1 ≤ y24 then
                (some ((-1 : Int32), I1))
              else
                ((fX8_last R I1 a0 x9).bind fun y26 =>
                if y26 ≤ p1 then
                  (some ((-1 : Int32), I1))
                else
                  (some ((-2 : Int32), I1)))) (fun q23 => some q23))
          else
            (some ((-3 : Int32), I1))))))
set_option maxHeartbeats 4000000 in
set_option maxRecDepth 100000 in
theorem sX8_cell {l : Launch} {G : qG} {N : Nat} {R : qR} {I : qI} {a0 : Nat} {p1 : Int32} {p2 : Int32} {p3 : Int32} {rv : Int32} {rI : qI} (hW : qWT R) (ha0 : qok R a0 8) (hF : fX8_cell N R I a0 p1 p2 p3 = some (rv, rI)) : qMt l G mX8_cell 2 [.ref (G.1 + a0), .int p1, .int p2, .int p3] I R (some (.int rv)) rI R := by
  unfold fX8_cell at hF
  refine qMt_of (by decide) (Nat.le_of_ble_eq_true rfl) ⟨Nat.le_refl _, Nat.le_refl _⟩ ?_
  show AW _ 0 [(0, .ref (G.1 + a0)), (1, .int p1), (2, .int p2), (3, .int p3)] [] I R
  refine aw_aload_n dX8_cell_0 0 rfl rfl ?_
  refine aw_iconst (v := (0 : Int32)) dX8_cell_1 (by decide) ?_
  obtain ⟨I1, eI1, hF⟩ := qletE hF
  refine aw_putiq fl_X8_94 (by decide) fs_X8_0 fn_X8_0 ft_X8_0 ha0 eI1 rfl dX8_cell_2 ?_
  refine aw_iload_n dX8_cell_5 1 rfl rfl ?_
  refine aw_if_lt (tgt := 34) dX8_cell_6 (by decide) (fun c2 => ?_) (fun c2 => ?_)
  · rw [if_pos c2] at hF
    refine aw_bipush (v := (-3 : Int32)) dX8_cell_34 (by decide) ?_
    cases hF
    exact aw_iret rfl dX8_cell_36 rfl rfl rfl
  · rw [if_neg c2] at hF
    refine aw_iload_n dX8_cell_9 1 rfl rfl ?_
    refine aw_aload_n dX8_cell_10 0 rfl rfl ?_
    refine aw_geti fl_X8_117 (by decide) fg_X8_9 ha0 rfl dX8_cell_11 ?_
    refine aw_icmp_ge (tgt := 34) dX8_cell_14 (by decide) (fun c3 => ?_) (fun c3 => ?_)
    · rw [if_pos c3] at hF
      refine aw_bipush (v := (-3 : Int32)) dX8_cell_34 (by decide) ?_
      cases hF
      exact aw_iret rfl dX8_cell_36 rfl rfl rfl
    · rw [if_neg c3] at hF
      refine aw_aload_n dX8_cell_17 0 rfl rfl ?_
      refine aw_iload_n dX8_cell_18 2 rfl rfl ?_
      obtain ⟨y4, ey4, hF⟩ := qbind hF
      refine aw_callVi (As := [.int p2]) (sX8_isColumn hW ha0 ey4) cl_X8_176 rfl (qroomL (by decide) (by decide)) rfl ha0 (Nat.le_of_ble_eq_true rfl) dX8_cell_19 rfl ?_
      refine aw_if_eq (tgt := 34) dX8_cell_22 (by decide) (fun c5 => ?_) (fun c5 => ?_)
      · rw [if_pos c5] at hF
        refine aw_bipush (v := (-3 : Int32)) dX8_cell_34 (by decide) ?_
        cases hF
        exact aw_iret rfl dX8_cell_36 rfl rfl rfl
      · rw [if_neg c5] at hF
        refine aw_iload_n dX8_cell_25 3 rfl rfl ?_
        refine aw_if_lt (tgt := 34) dX8_cell_26 (by decide) (fun c6 => ?_) (fun c6 => ?_)
        · rw [if_pos c6] at hF
          refine aw_bipush (v := (-3 : Int32)) dX8_cell_34 (by decide) ?_
          cases hF
          exact aw_iret rfl dX8_cell_36 rfl rfl rfl
        · rw [if_neg c6] at hF
          refine aw_iload_n dX8_cell_29 3 rfl rfl ?_
          refine aw_iconst (v := (1 : Int32)) dX8_cell_30 (by decide) ?_
          refine aw_icmp_le (tgt := 37) dX8_cell_31 (by decide) (fun c7 => ?_) (fun c7 => ?_)
          · rw [if_pos c7] at hF
            refine aw_aload_n dX8_cell_37 0 rfl rfl ?_
            obtain ⟨r8, er8, hF⟩ := qbind hF
            have kr8 : qok R r8 9 := hW.get ha0 er8 rfl
            refine aw_getr fl_X8_53 (by decide) fg_X8_18 ha0 er8 rfl dX8_cell_38 ?_
            refine aw_iload_n dX8_cell_41 2 rfl rfl ?_
            obtain ⟨x9, ex9, hF⟩ := qbind hF
            refine aw_ialdq kr8 ex9 dX8_cell_42 ?_
            refine aw_istore (lv' := [(4, .int x9), (0, .ref (G.1 + a0)), (1, .int p1), (2, .int p2), (3, .int p3)]) dX8_cell_43 (Nat.le_of_ble_eq_true rfl) rfl ?_
            refine aw_iconst (v := (0 : Int32)) dX8_cell_45 (by decide) ?_
            refine aw_istore (lv' := [(5, .int (0 : Int32)), (4, .int x9), (0, .ref (G.1 + a0)), (1, .int p1), (2, .int p2), (3, .int p3)]) dX8_cell_46 (Nat.le_of_ble_eq_true rfl) rfl ?_
            obtain ⟨o21, eo21, hF⟩ := qbind hF
            refine aw_sub [2, 3, 5, 1, 0] rfl (tX8_cell_48 hW ha0 (o := o21) ?_ N (0 : Int32) eo21)
            cases o21 with
            | inl e22 =>
              replace hF := qxl hF
              show AW _ 117 [(0, .ref (G.1 + a0)), (1, .int p1), (4, .int x9)] [] I1 R
              refine aw_iload_n dX8_cell_117 1 rfl rfl ?_
              refine aw_aload_n dX8_cell_118 0 rfl rfl ?_
              refine aw_iload dX8_cell_119 2 rfl ?_
              obtain ⟨y24, ey24, hF⟩ := qbind hF
              refine aw_callVi (As := [.int x9]) (sX8_first hW ha0 ey24) cl_X8_158 rfl (qroomL (by decide) (by decide)) rfl ha0 (Nat.le_of_ble_eq_true rfl) dX8_cell_121 rfl ?_
              refine aw_icmp_le (tgt := 142) dX8_cell_124 (by decide) (fun c25 => ?_) (fun c25 => ?_)
              · rw [if_pos c25] at hF
                refine aw_iconst (v := (-1 : Int32)) dX8_cell_142 (by decide) ?_
                cases hF
                exact aw_iret rfl dX8_cell_143 rfl rfl rfl
              · rw [if_neg c25] at hF
                refine aw_iload_n dX8_cell_127 1 rfl rfl ?_
                refine aw_aload_n dX8_cell_128 0 rfl rfl ?_
                refine aw_iload dX8_cell_129 2 rfl ?_
                obtain ⟨y26, ey26, hF⟩ := qbind hF
                refine aw_callVi (As := [.int x9]) (sX8_last hW ha0 ey26) cl_X8_164 rfl (qroomL (by decide) (by decide)) rfl ha0 (Nat.le_of_ble_eq_true rfl) dX8_cell_131 rfl ?_
                refine aw_icmp_ge (tgt := 142) dX8_cell_134 (by decide) (fun c27 => ?_) (fun c27 => ?_)
                · rw [if_pos c27] at hF
                  refine aw_iconst (v := (-1 : Int32)) dX8_cell_142 (by decide) ?_
                  cases hF
                  exact aw_iret rfl dX8_cell_143 rfl rfl rfl
                · rw [if_neg c27] at hF
                  refine aw_bipush (v := (-2 : Int32)) dX8_cell_137 (by decide) ?_
                  refine aw_goto (tgt := 143) dX8_cell_139 (by decide) ?_
                  cases hF
                  exact aw_iret rfl dX8_cell_143 rfl rfl rfl
            | inr q23 =>
              replace hF := qxr hF
              cases hF
              exact ⟨rfl, rfl⟩
          · rw [if_neg c7] at hF
            refine aw_bipush (v := (-3 : Int32)) dX8_cell_34 (by decide) ?_
            cases hF
            exact aw_iret rfl dX8_cell_36 rfl rfl rfl
