def cL_body (N L : Nat) (xs : Nat → Int32) (b1 b2 : Nat) (v3 : Int32) (I : qI) (R : qR) : Option ((Int32 × qI × qR) ⊕ Unit) :=
  (qck R).bind fun _ =>
  if ((Int32.ofNat L) - (6 : Int32)) < v3 then
    (some (.inr ()))
  else
    ((qsc L xs v3).bind fun x2 =>
    if (x2 &&& (31 : Int32)) = (0 : Int32) then
      ((qsc L xs (v3 + (1 : Int32))).bind fun x4 =>
      (fX7_train R I b1 x4).bind fun y5 =>
      (fX8_train R y5.2 b2 x4).bind fun y6 =>
      if y5.1 = y6.1 then
        (some (.inl ((v3 + 6), y6.2, R)))
      else
        (none))
    else
    if (x2 &&& (31 : Int32)) = (1 : Int32) then
      ((qsc L xs (v3 + (1 : Int32))).bind fun x9 =>
      (qsc L xs (v3 + (2 : Int32))).bind fun x10 =>
      (qsc L xs (v3 + (3 : Int32))).bind fun x11 =>
      (qsc L xs (v3 + (4 : Int32))).bind fun x12 =>
      (fX7_stop R I b1 x9 x10 x11 x12).bind fun y13 =>
      (fX8_stop N R y13.2 b2 x9 x10 x11 x12).bind fun y14 =>
      if y13.1 = y14.1 then
        (some (.inl ((v3 + 6), y14.2, R)))
      else
        (none))
    else
    if (x2 &&& (31 : Int32)) = (2 : Int32) then
      ((qsc L xs (v3 + (1 : Int32))).bind fun x17 =>
      (qsc L xs (v3 + (2 : Int32))).bind fun x18 =>
      (fX7_days R I b1 x17 x18).bind fun y19 =>
      (fX8_days R y19.2 b2 x17 x18).bind fun y20 =>
      if y19.1 = y20.1 then
        (some (.inl ((v3 + 6), y20.2, R)))
      else
        (none))
    else
    if (x2 &&& (31 : Int32)) = (3 : Int32) then
      ((qsc L xs (v3 + (1 : Int32))).bind fun x23 =>
      (fX7_cut R I b1 x23).bind fun y24 =>
      (fX8_cut R y24.2 b2 x23).bind fun y25 =>
      if y24.1 = y25.1 then
        (some (.inl ((v3 + 6), y25.2, R)))
      else
        (none))
    else
    if (x2 &&& (31 : Int32)) = (4 : Int32) then
      ((qsc L xs (v3 + (1 : Int32))).bind fun x28 =>
      (qsc L xs (v3 + (2 : Int32))).bind fun x29 =>
      (fX7_shift N R I b1 x28 x29).bind fun y30 =>
      (fX8_shift N R y30.2 b2 x28 x29).bind fun y31 =>
      if y30.1 = y31.1 then
        (some (.inl ((v3 + 6), y31.2, R)))
      else
        (none))
    else
    if (x2 &&& (31 : Int32)) = (5 : Int32) then
      ((qsc L xs (v3 + (1 : Int32))).bind fun x34 =>
      (qsc L xs (v3 + (2 : Int32))).bind fun x35 =>
      (fX7_sign R I b1 x34 x35).bind fun y36 =>
      (fX8_sign R y36.2 b2 x34 x35).bind fun y37 =>
      if y36.1 = y37.1 then
        (some (.inl ((v3 + 6), y37.2, R)))
      else
        (none))
    else
    if (x2 &&& (31 : Int32)) = (6 : Int32) then
      ((qsc L xs (v3 + (1 : Int32))).bind fun x40 =>
      (fX7_change R I b1 x40).bind fun y41 =>
      (fX8_change R y41.2 b2 x40).bind fun y42 =>
      if y41.1 = y42.1 then
        (some (.inl ((v3 + 6), y42.2, R)))
      else
        (none))
    else
    if (x2 &&& (31 : Int32)) = (7 : Int32) then
      ((qsc L xs (v3 + (1 : Int32))).bind fun x45 =>
      (fX7_about R I b1 x45).bind fun y46 =>
      (fX8_about R I b2 x45).bind fun y47 =>
      if y46 = y47.1 then
        (some (.inl ((v3 + 6), y47.2, R)))
      else
        (none))
    else
    if (x2 &&& (31 : Int32)) = (8 : Int32) then
      ((qsc L xs (v3 + (1 : Int32))).bind fun x50 =>
      (qsc L xs (v3 + (2 : Int32))).bind fun x51 =>
      (fX7_signs N R I b1 x50 x51).bind fun y52 =>
      (fX8_signs N R I b2 x50 x51).bind fun y53 =>
      if y52 = y53.1 then
        (some (.inl ((v3 + 6), y53.2, R)))
      else
        (none))
    else
    if (x2 &&& (31 : Int32)) = (9 : Int32) then
      ((qsc L xs (v3 + (1 : Int32))).bind fun x56 =>
      (fX7_table N R I b1 x56).bind fun y57 =>
      (qck y57.2.2).bind fun _ =>
      (fX8_table N y57.2.2 y57.2.1 b2 x56).bind fun y58 =>
      if y57.1 = y58.1 then
        (some (.inl ((v3 + 6), y58.2, y57.2.2)))
      else
        (none))
    else
    if (x2 &&& (31 : Int32)) = (10 : Int32) then
      ((qsc L xs (v3 + (1 : Int32))).bind fun x61 =>
      (fX7_row R I b1 x61).bind fun y62 =>
      (fX8_row R I b2 x61).bind fun y63 =>
      if y62 = y63.1 then
        (some (.inl ((v3 + 6), y63.2, R)))
      else
        (none))
    else
    if (x2 &&& (31 : Int32)) = (11 : Int32) then
      ((qsc L xs (v3 + (1 : Int32))).bind fun x66 =>
      (fX7_column R I b1 x66).bind fun y67 =>
      (fX8_column R I b2 x66).bind fun y68 =>
      if y67 = y68.1 then
        (some (.inl ((v3 + 6), y68.2, R)))
      else
        (none))
    else
    if (x2 &&& (31 : Int32)) = (12 : Int32) then
      ((qsc L xs (v3 + (1 : Int32))).bind fun x71 =>
      (qsc L xs (v3 + (2 : Int32))).bind fun x72 =>
      (qsc L xs (v3 + (3 : Int32))).bind fun x73 =>
      (fX7_cell N R I b1 x71 x72 x73).bind fun y74 =>
      (fX8_cell N R I b2 x71 x72 x73).bind fun y75 =>
      if y74 = y75.1 then
        (some (.inl ((v3 + 6), y75.2, R)))
      else
        (none))
    else
    if (x2 &&& (31 : Int32)) = (13 : Int32) then
      ((qsc L xs (v3 + (1 : Int32))).bind fun x78 =>
      (fX7_breaches R I b1 x78).bind fun y79 =>
      (fX8_breaches N R I b2 x78).bind fun y80 =>
      if y79 = y80.1 then
        (some (.inl ((v3 + 6), y80.2, R)))
      else
        (none))
    else
    if (x2 &&& (31 : Int32)) = (14 : Int32) then
      ((qsc L xs (v3 + (1 : Int32))).bind fun x83 =>
      (qsc L xs (v3 + (2 : Int32))).bind fun x84 =>
      (fX7_breach R I b1 x83 x84).bind fun y85 =>
      (fX8_breach N R I b2 x83 x84).bind fun y86 =>
      if y85 = y86.1 then
        (some (.inl ((v3 + 6), y86.2, R)))
      else
        (none))
    else
    if (x2 &&& (31 : Int32)) = (15 : Int32) then
      ((fX7_lanes R I b1).bind fun y89 =>
      (fX8_lanes R I b2).bind fun y90 =>
      if y89 = y90.1 then
        (some (.inl ((v3 + 6), y90.2, R)))
      else
        (none))
    else
    if (x2 &&& (31 : Int32)) = (16 : Int32) then
      ((qsc L xs (v3 + (1 : Int32))).bind fun x93 =>
      (fX7_lane R I b1 x93).bind fun y94 =>
      (fX8_lane R I b2 x93).bind fun y95 =>
      if y94 = y95.1 then
        (some (.inl ((v3 + 6), y95.2, R)))
      else
        (none))
    else
    if (x2 &&& (31 : Int32)) = (17 : Int32) then
      ((qsc L xs (v3 + (1 : Int32))).bind fun x98 =>
      (qsc L xs (v3 + (2 : Int32))).bind fun x99 =>
      (qsc L xs (v3 + (3 : Int32))).bind fun x100 =>
      (qsc L xs (v3 + (4 : Int32))).bind fun x101 =>
      (qsc L xs (v3 + (5 : Int32))).bind fun x102 =>
      (fX7_way N R I b1 x98 x99 x100 x101 x102).bind fun y103 =>
      (qck y103.2.2).bind fun _ =>
      (fX8_way N y103.2.2 y103.2.1 b2 x98 x99 x100 x101 x102).bind fun y104 =>
      if y103.1 = y104.1 then
        (some (.inl ((v3 + 6), y104.2, y103.2.2)))
      else
        (none))
    else
    if (x2 &&& (31 : Int32)) = (18 : Int32) then
      ((qsc L xs (v3 + (1 : Int32))).bind fun x107 =>
      (qsc L xs (v3 + (2 : Int32))).bind fun x108 =>
      (qsc L xs (v3 + (3 : Int32))).bind fun x109 =>
      (fX7_departures N R I b1 x107 x108 x109).bind fun y110 =>
      (qck y110.2.2).bind fun _ =>
      (fX8_departures N y110.2.2 y110.2.1 b2 x107 x108 x109).bind fun y111 =>
      if y110.1 = y111.1 then
        (some (.inl ((v3 + 6), y111.2, y110.2.2)))
      else
        (none))
    else
    if (x2 &&& (31 : Int32)) = (19 : Int32) then
      ((qsc L xs (v3 + (1 : Int32))).bind fun x114 =>
      (qsc L xs (v3 + (2 : Int32))).bind fun x115 =>
      (qsc L xs (v3 + (3 : Int32))).bind fun x116 =>
      (qsc L xs (v3 + (4 : Int32))).bind fun x117 =>
      (fX7_departure N R I b1 x114 x115 x116 x117).bind fun y118 =>
      (qck y118.2.2).bind fun _ =>
      (fX8_departure N y118.2.2 y118.2.1 b2 x114 x115 x116 x117).bind fun y119 =>
      if y118.1 = y119.1 then
        (some (.inl ((v3 + 6), y119.2, y118.2.2)))
      else
        (none))
    else
    some (.inl ((v3 + 6), I, R)))
set_option maxHeartbeats 4000000 in
set_option maxRecDepth 100000 in
theorem tL_law {l : Launch} {G : qG} {nm : String} {b L N : Nat} {xs : Nat → Int32} {b1 b2 : Nat} : ∀ n s, qloop (fun s => cL_body N L xs b1 b2 s.1 s.2.1 s.2.2) n s = some () → (match s with | (v3, I, R) => qWT R → qok R b1 7 → qok R b2 8 → AW (ZL l G nm b L xs) 18 [(0, .ref b), (1, .ref (G.1 + b1)), (2, .ref (G.1 + b2)), (3, .int v3)] [] I R) := by
  apply qloop_ind
  intro s x hF hc he
  obtain ⟨v3, I, R⟩ := s
  change cL_body N L xs b1 b2 v3 I R = some x at hF
  unfold cL_body at hF
  show qWT R → qok R b1 7 → qok R b2 8 → AW (ZL l G nm b L xs) 18 [(0, .ref b), (1, .ref (G.1 + b1)), (2, .ref (G.1 + b2)), (3, .int v3)] [] I R
  intro hW h1 h2
  obtain ⟨_, hcap, hF⟩ := qbind hF
  replace hcap := qck_some hcap
  refine aw_iload_n dL_law_18 3 rfl rfl ?_
  refine aw_aload_n dL_law_19 0 rfl rfl ?_
  refine aw_slen rfl dL_law_20 ?_
  refine aw_bipush (v := (6 : Int32)) dL_law_21 (by decide) ?_
  refine aw_isub dL_law_23 ?_
  refine aw_icmp_gt (tgt := 774) dL_law_24 (by decide) (fun c1 => ?_) (fun c1 => ?_)
  · rw [if_pos c1] at hF
    refine aw_iconst (v := (1 : Int32)) dL_law_774 (by decide) ?_
    exact aw_lawret hcap dL_law_775
  · rw [if_neg c1] at hF
    refine aw_aload_n dL_law_27 0 rfl rfl ?_
    refine aw_iload_n dL_law_28 3 rfl rfl ?_
    obtain ⟨x2, ex2, hF⟩ := qbind hF
    refine aw_sldq ex2 dL_law_29 ?_
    refine aw_bipush (v := (31 : Int32)) dL_law_30 (by decide) ?_
    refine aw_iand dL_law_32 ?_
    by_cases c3 : (x2 &&& (31 : Int32)) = (0 : Int32)
    · rw [if_pos c3] at hF
      refine aw_tableEq (tgt := 128) dL_law_33 c3 (by decide) (by decide) rfl (by decide) ?_
      refine aw_aload_n dL_law_128 1 rfl rfl ?_
      refine aw_aload_n dL_law_129 0 rfl rfl ?_
      refine aw_iload_n dL_law_130 3 rfl rfl ?_
      refine aw_iconst (v := (1 : Int32)) dL_law_131 (by decide) ?_
      refine aw_iadd dL_law_132 ?_
      obtain ⟨x4, ex4, hF⟩ := qbind hF
      refine aw_sldq ex4 dL_law_133 ?_
      obtain ⟨y5, ey5, hF⟩ := qbind hF
      refine aw_callVi (As := [.int x4]) (sX7_train hW h1 ey5) cl_L_13 rfl (qroomW (by decide) (by decide) hcap) rfl h1 (Nat.le_of_ble_eq_true rfl) dL_law_134 rfl ?_
      refine aw_aload_n dL_law_137 2 rfl rfl ?_
      refine aw_aload_n dL_law_138 0 rfl rfl ?_
      refine aw_iload_n dL_law_139 3 rfl rfl ?_
      refine aw_iconst (v := (1 : Int32)) dL_law_140 (by decide) ?_
      refine aw_iadd dL_law_141 ?_
      refine aw_sldq ex4 dL_law_142 ?_
      obtain ⟨y6, ey6, hF⟩ := qbind hF
      refine aw_callVi (As := [.int x4]) (sX8_train hW h2 ey6) cl_L_17 rfl (qroomW (by decide) (by decide) hcap) rfl h2 (Nat.le_of_ble_eq_true rfl) dL_law_143 rfl ?_
      refine aw_icmp_eq (tgt := 768) dL_law_146 (by decide) (fun c7 => ?_) (fun c7 => ?_)
      · rw [if_pos c7] at hF
        refine aw_iinc (q := 3) (v := (v3 + 6)) (lv' := [(3, .int (v3 + 6)), (0, .ref b), (1, .ref (G.1 + b1)), (2, .ref (G.1 + b2))]) dL_law_768 rfl rfl (Nat.le_of_ble_eq_true rfl) rfl ?_
        refine aw_goto (tgt := 18) dL_law_771 (by decide) ?_
        cases hF
        exact aw_sub [1, 2, 3, 0] rfl (hc ((v3 + 6), y6.2, R) rfl hW h1 h2)
      · rw [if_neg c7] at hF
        refine aw_iconst (v := (0 : Int32)) dL_law_149 (by decide) ?_
        cases hF
    · rw [if_neg c3] at hF
      by_cases c8 : (x2 &&& (31 : Int32)) = (1 : Int32)
      · rw [if_pos c8] at hF
        refine aw_tableEq (tgt := 151) dL_law_33 c8 (by decide) (by decide) rfl (by decide) ?_
        refine aw_aload_n dL_law_151 1 rfl rfl ?_
        refine aw_aload_n dL_law_152 0 rfl rfl ?_
        refine aw_iload_n dL_law_153 3 rfl rfl ?_
        refine aw_iconst (v := (1 : Int32)) dL_law_154 (by decide) ?_
        refine aw_iadd dL_law_155 ?_
        obtain ⟨x9, ex9, hF⟩ := qbind hF
        refine aw_sldq ex9 dL_law_156 ?_
        refine aw_aload_n dL_law_157 0 rfl rfl ?_
        refine aw_iload_n dL_law_158 3 rfl rfl ?_
        refine aw_iconst (v := (2 : Int32)) dL_law_159 (by decide) ?_
        refine aw_iadd dL_law_160 ?_
        obtain ⟨x10, ex10, hF⟩ := qbind hF
        refine aw_sldq ex10 dL_law_161 ?_
        refine aw_aload_n dL_law_162 0 rfl rfl ?_
        refine aw_iload_n dL_law_163 3 rfl rfl ?_
        refine aw_iconst (v := (3 : Int32)) dL_law_164 (by decide) ?_
        refine aw_iadd dL_law_165 ?_
        obtain ⟨x11, ex11, hF⟩ := qbind hF
        refine aw_sldq ex11 dL_law_166 ?_
        refine aw_aload_n dL_law_167 0 rfl rfl ?_
        refine aw_iload_n dL_law_168 3 rfl rfl ?_
        refine aw_iconst (v := (4 : Int32)) dL_law_169 (by decide) ?_
        refine aw_iadd dL_law_170 ?_
        obtain ⟨x12, ex12, hF⟩ := qbind hF
        refine aw_sldq ex12 dL_law_171 ?_
        obtain ⟨y13, ey13, hF⟩ := qbind hF
        refine aw_callVi (As := [.int x9, .int x10, .int x11, .int x12]) (sX7_stop hW h1 ey13) cl_L_18 rfl (qroomW (by decide) (by decide) hcap) rfl h1 (Nat.le_of_ble_eq_true rfl) dL_law_172 rfl ?_
        refine aw_aload_n dL_law_175 2 rfl rfl ?_
        refine aw_aload_n dL_law_176 0 rfl rfl ?_
        refine aw_iload_n dL_law_177 3 rfl rfl ?_
        refine aw_iconst (v := (1 : Int32)) dL_law_178 (by decide) ?_
        refine aw_iadd dL_law_179 ?_
        refine aw_sldq ex9 dL_law_180 ?_
        refine aw_aload_n dL_law_181 0 rfl rfl ?_
        refine aw_iload_n dL_law_182 3 rfl rfl ?_
        refine aw_iconst (v := (2 : Int32)) dL_law_183 (by decide) ?_
        refine aw_iadd dL_law_184 ?_
        refine aw_sldq ex10 dL_law_185 ?_
        refine aw_aload_n dL_law_186 0 rfl rfl ?_
        refine aw_iload_n dL_law_187 3 rfl rfl ?_
        refine aw_iconst (v := (3 : Int32)) dL_law_188 (by decide) ?_
        refine aw_iadd dL_law_189 ?_
        refine aw_sldq ex11 dL_law_190 ?_
        refine aw_aload_n dL_law_191 0 rfl rfl ?_
        refine aw_iload_n dL_law_192 3 rfl rfl ?_
        refine aw_iconst (v := (4 : Int32)) dL_law_193 (by decide) ?_
        refine aw_iadd dL_law_194 ?_
        refine aw_sldq ex12 dL_law_195 ?_
        obtain ⟨y14, ey14, hF⟩ := qbind hF
        refine aw_callVi (As := [.int x9, .int x10, .int x11, .int x12]) (sX8_stop hW h2 ey14) cl_L_22 rfl (qroomW (by decide) (by decide) hcap) rfl h2 (Nat.le_of_ble_eq_true rfl) dL_law_196 rfl ?_
        refine aw_icmp_eq (tgt := 768) dL_law_199 (by decide) (fun c15 => ?_) (fun c15 => ?_)
        · rw [if_pos c15] at hF
          refine aw_iinc (q := 3) (v := (v3 + 6)) (lv' := [(3, .int (v3 + 6)), (0, .ref b), (1, .ref (G.1 + b1)), (2, .ref (G.1 + b2))]) dL_law_768 rfl rfl (Nat.le_of_ble_eq_true rfl) rfl ?_
          refine aw_goto (tgt := 18) dL_law_771 (by decide) ?_
          cases hF
          exact aw_sub [1, 2, 3, 0] rfl (hc ((v3 + 6), y14.2, R) rfl hW h1 h2)
        · rw [if_neg c15] at hF
          refine aw_iconst (v := (0 : Int32)) dL_law_202 (by decide) ?_
          cases hF
      · rw [if_neg c8] at hF
        by_cases c16 : (x2 &&& (31 : Int32)) = (2 : Int32)
        · rw [if_pos c16] at hF
          refine aw_tableEq (tgt := 204) dL_law_33 c16 (by decide) (by decide) rfl (by decide) ?_
          refine aw_aload_n dL_law_204 1 rfl rfl ?_
          refine aw_aload_n dL_law_205 0 rfl rfl ?_
          refine aw_iload_n dL_law_206 3 rfl rfl ?_
          refine aw_iconst (v := (1 : Int32)) dL_law_207 (by decide) ?_
          refine aw_iadd dL_law_208 ?_
          obtain ⟨x17, ex17, hF⟩ := qbind hF
          refine aw_sldq ex17 dL_law_209 ?_
          refine aw_aload_n dL_law_210 0 rfl rfl ?_
          refine aw_iload_n dL_law_211 3 rfl rfl ?_
          refine aw_iconst (v := (2 : Int32)) dL_law_212 (by decide) ?_
          refine aw_iadd dL_law_213 ?_
          obtain ⟨x18, ex18, hF⟩ := qbind hF
          refine aw_sldq ex18 dL_law_214 ?_
          obtain ⟨y19, ey19, hF⟩ := qbind hF
          refine aw_callVi (As := [.int x17, .int x18]) (sX7_days hW h1 ey19) cl_L_23 rfl (qroomW (by decide) (by decide) hcap) rfl h1 (Nat.le_of_ble_eq_true rfl) dL_law_215 rfl ?_
          refine aw_aload_n dL_law_218 2 rfl rfl ?_
          refine aw_aload_n dL_law_219 0 rfl rfl ?_
          refine aw_iload_n dL_law_220 3 rfl rfl ?_
          refine aw_iconst (v := (1 : Int32)) dL_law_221 (by decide) ?_
          refine aw_iadd dL_law_222 ?_
          refine aw_sldq ex17 dL_law_223 ?_
          refine aw_aload_n dL_law_224 0 rfl rfl ?_
          refine aw_iload_n dL_law_225 3 rfl rfl ?_
          refine aw_iconst (v := (2 : Int32)) dL_law_226 (by decide) ?_
          refine aw_iadd dL_law_227 ?_
          refine aw_sldq ex18 dL_law_228 ?_
          obtain ⟨y20, ey20, hF⟩ := qbind hF
          refine aw_callVi (As := [.int x17, .int x18]) (sX8_days hW h2 ey20) cl_L_27 rfl (qroomW (by decide) (by decide) hcap) rfl h2 (Nat.le_of_ble_eq_true rfl) dL_law_229 rfl ?_
          refine aw_icmp_eq (tgt := 768) dL_law_232 (by decide) (fun c21 => ?_) (fun c21 => ?_)
          · rw [if_pos c21] at hF
            refine aw_iinc (q := 3) (v := (v3 + 6)) (lv' := [(3, .int (v3 + 6)), (0, .ref b), (1, .ref (G.1 + b1)), (2, .ref (G.1 + b2))]) dL_law_768 rfl rfl (Nat.le_of_ble_eq_true rfl) rfl ?_
            refine aw_goto (tgt := 18) dL_law_771 (by decide) ?_
            cases hF
            exact aw_sub [1, 2, 3, 0] rfl (hc ((v3 + 6), y20.2, R) rfl hW h1 h2)
          · rw [if_neg c21] at hF
            refine aw_iconst (v := (0 : Int32)) dL_law_235 (by decide) ?_
            cases hF
        · rw [if_neg c16] at hF
          by_cases c22 : (x2 &&& (31 : Int32)) = (3 : Int32)
          · rw [if_pos c22] at hF
            refine aw_tableEq (tgt := 237) dL_law_33 c22 (by decide) (by decide) rfl (by decide) ?_
            refine aw_aload_n dL_law_237 1 rfl rfl ?_
            refine aw_aload_n dL_law_238 0 rfl rfl ?_
            refine aw_iload_n dL_law_239 3 rfl rfl ?_
            refine aw_iconst (v := (1 : Int32)) dL_law_240 (by decide) ?_
            refine aw_iadd dL_law_241 ?_
            obtain ⟨x23, ex23, hF⟩ := qbind hF
            refine aw_sldq ex23 dL_law_242 ?_
            obtain ⟨y24, ey24, hF⟩ := qbind hF
            refine aw_callVi (As := [.int x23]) (sX7_cut hW h1 ey24) cl_L_28 rfl (qroomW (by decide) (by decide) hcap) rfl h1 (Nat.le_of_ble_eq_true rfl) dL_law_243 rfl ?_
            refine aw_aload_n dL_law_246 2 rfl rfl ?_
            refine aw_aload_n dL_law_247 0 rfl rfl ?_
            refine aw_iload_n dL_law_248 3 rfl rfl ?_
            refine aw_iconst (v := (1 : Int32)) dL_law_249 (by decide) ?_
            refine aw_iadd dL_law_250 ?_
            refine aw_sldq ex23 dL_law_251 ?_
            obtain ⟨y25, ey25, hF⟩ := qbind hF
            refine aw_callVi (As := [.int x23]) (sX8_cut hW h2 ey25) cl_L_32 rfl (qroomW (by decide) (by decide) hcap) rfl h2 (Nat.le_of_ble_eq_true rfl) dL_law_252 rfl ?_
            refine aw_icmp_eq (tgt := 768) dL_law_255 (by decide) (fun c26 => ?_) (fun c26 => ?_)
            · rw [if_pos c26] at hF
              refine aw_iinc (q := 3) (v := (v3 + 6)) (lv' := [(3, .int (v3 + 6)), (0, .ref b), (1, .ref (G.1 + b1)), (2, .ref (G.1 + b2))]) dL_law_768 rfl rfl (Nat.le_of_ble_eq_true rfl) rfl ?_
              refine aw_goto (tgt := 18) dL_law_771 (by decide) ?_
              cases hF
              exact aw_sub [1, 2, 3, 0] rfl (hc ((v3 + 6), y25.2, R) rfl hW h1 h2)
            · rw [if_neg c26] at hF
              refine aw_iconst (v := (0 : Int32)) dL_law_258 (by decide) ?_
              cases hF
          · rw [if_neg c22] at hF
            by_cases c27 : (x2 &&& (31 : Int32)) = (4 : Int32)
            · rw [if_pos c27] at hF
              refine aw_tableEq (tgt := 260) dL_law_33 c27 (by decide) (by decide) rfl (by decide) ?_
              refine aw_aload_n dL_law_260 1 rfl rfl ?_
              refine aw_aload_n dL_law_261 0 rfl rfl ?_
              refine aw_iload_n dL_law_262 3 rfl rfl ?_
              refine aw_iconst (v := (1 : Int32)) dL_law_263 (by decide) ?_
              refine aw_iadd dL_law_264 ?_
              obtain ⟨x28, ex28, hF⟩ := qbind hF
              refine aw_sldq ex28 dL_law_265 ?_
              refine aw_aload_n dL_law_266 0 rfl rfl ?_
              refine aw_iload_n dL_law_267 3 rfl rfl ?_
              refine aw_iconst (v := (2 : Int32)) dL_law_268 (by decide) ?_
              refine aw_iadd dL_law_269 ?_
              obtain ⟨x29, ex29, hF⟩ := qbind hF
              refine aw_sldq ex29 dL_law_270 ?_
              obtain ⟨y30, ey30, hF⟩ := qbind hF
              refine aw_callVi (As := [.int x28, .int x29]) (sX7_shift hW h1 ey30) cl_L_33 rfl (qroomW (by decide) (by decide) hcap) rfl h1 (Nat.le_of_ble_eq_true rfl) dL_law_271 rfl ?_
              refine aw_aload_n dL_law_274 2 rfl rfl ?_
              refine aw_aload_n dL_law_275 0 rfl rfl ?_
              refine aw_iload_n dL_law_276 3 rfl rfl ?_
              refine aw_iconst (v := (1 : Int32)) dL_law_277 (by decide) ?_
              refine aw_iadd dL_law_278 ?_
              refine aw_sldq ex28 dL_law_279 ?_
              refine aw_aload_n dL_law_280 0 rfl rfl ?_
              refine aw_iload_n dL_law_281 3 rfl rfl ?_
              refine aw_iconst (v := (2 : Int32)) dL_law_282 (by decide) ?_
              refine aw_iadd dL_law_283 ?_
              refine aw_sldq ex29 dL_law_284 ?_
              obtain ⟨y31, ey31, hF⟩ := qbind hF
              refine aw_callVi (As := [.int x28, .int x29]) (sX8_shift hW h2 ey31) cl_L_36 rfl (qroomW (by decide) (by decide) hcap) rfl h2 (Nat.le_of_ble_eq_true rfl) dL_law_285 rfl ?_
              refine aw_icmp_eq (tgt := 768) dL_law_288 (by decide) (fun c32 => ?_) (fun c32 => ?_)
              · rw [if_pos c32] at hF
                refine aw_iinc (q := 3) (v := (v3 + 6)) (lv' := [(3, .int (v3 + 6)), (0, .ref b), (1, .ref (G.1 + b1)), (2, .ref (G.1 + b2))]) dL_law_768 rfl rfl (Nat.le_of_ble_eq_true rfl) rfl ?_
                refine aw_goto (tgt := 18) dL_law_771 (by decide) ?_
                cases hF
                exact aw_sub [1, 2, 3, 0] rfl (hc ((v3 + 6), y31.2, R) rfl hW h1 h2)
              · rw [if_neg c32] at hF
                refine aw_iconst (v := (0 : Int32)) dL_law_291 (by decide) ?_
                cases hF
            · rw [if_neg c27] at hF
              by_cases c33 : (x2 &&& (31 : Int32)) = (5 : Int32)
              · rw [if_pos c33] at hF
                refine aw_tableEq (tgt := 293) dL_law_33 c33 (by decide) (by decide) rfl (by decide) ?_
                refine aw_aload_n dL_law_293 1 rfl rfl ?_
                refine aw_aload_n dL_law_294 0 rfl rfl ?_
                refine aw_iload_n dL_law_295 3 rfl rfl ?_
                refine aw_iconst (v := (1 : Int32)) dL_law_296 (by decide) ?_
                refine aw_iadd dL_law_297 ?_
                obtain ⟨x34, ex34, hF⟩ := qbind hF
                refine aw_sldq ex34 dL_law_298 ?_
                refine aw_aload_n dL_law_299 0 rfl rfl ?_
                refine aw_iload_n dL_law_300 3 rfl rfl ?_
                refine aw_iconst (v := (2 : Int32)) dL_law_301 (by decide) ?_
                refine aw_iadd dL_law_302 ?_
                obtain ⟨x35, ex35, hF⟩ := qbind hF
                refine aw_sldq ex35 dL_law_303 ?_
                obtain ⟨y36, ey36, hF⟩ := qbind hF
                refine aw_callVi (As := [.int x34, .int x35]) (sX7_sign hW h1 ey36) cl_L_37 rfl (qroomW (by decide) (by decide) hcap) rfl h1 (Nat.le_of_ble_eq_true rfl) dL_law_304 rfl ?_
                refine aw_aload_n dL_law_307 2 rfl rfl ?_
                refine aw_aload_n dL_law_308 0 rfl rfl ?_
                refine aw_iload_n dL_law_309 3 rfl rfl ?_
                refine aw_iconst (v := (1 : Int32)) dL_law_310 (by decide) ?_
                refine aw_iadd dL_law_311 ?_
                refine aw_sldq ex34 dL_law_312 ?_
                refine aw_aload_n dL_law_313 0 rfl rfl ?_
                refine aw_iload_n dL_law_314 3 rfl rfl ?_
                refine aw_iconst (v := (2 : Int32)) dL_law_315 (by decide) ?_
                refine aw_iadd dL_law_316 ?_
                refine aw_sldq ex35 dL_law_317 ?_
                obtain ⟨y37, ey37, hF⟩ := qbind hF
                refine aw_callVi (As := [.int x34, .int x35]) (sX8_sign hW h2 ey37) cl_L_40 rfl (qroomW (by decide) (by decide) hcap) rfl h2 (Nat.le_of_ble_eq_true rfl) dL_law_318 rfl ?_
                refine aw_icmp_eq (tgt := 768) dL_law_321 (by decide) (fun c38 => ?_) (fun c38 => ?_)
                · rw [if_pos c38] at hF
                  refine aw_iinc (q := 3) (v := (v3 + 6)) (lv' := [(3, .int (v3 + 6)), (0, .ref b), (1, .ref (G.1 + b1)), (2, .ref (G.1 + b2))]) dL_law_768 rfl rfl (Nat.le_of_ble_eq_true rfl) rfl ?_
                  refine aw_goto (tgt := 18) dL_law_771 (by decide) ?_
                  cases hF
                  exact aw_sub [1, 2, 3, 0] rfl (hc ((v3 + 6), y37.2, R) rfl hW h1 h2)
                · rw [if_neg c38] at hF
                  refine aw_iconst (v := (0 : Int32)) dL_law_324 (by decide) ?_
                  cases hF
              · rw [if_neg c33] at hF
                by_cases c39 : (x2 &&& (31 : Int32)) = (6 : Int32)
                · rw [if_pos c39] at hF
                  refine aw_tableEq (tgt := 326) dL_law_33 c39 (by decide) (by decide) rfl (by decide) ?_
                  refine aw_aload_n dL_law_326 1 rfl rfl ?_
                  refine aw_aload_n dL_law_327 0 rfl rfl ?_
                  refine aw_iload_n dL_law_328 3 rfl rfl ?_
                  refine aw_iconst (v := (1 : Int32)) dL_law_329 (by decide) ?_
                  refine aw_iadd dL_law_330 ?_
                  obtain ⟨x40, ex40, hF⟩ := qbind hF
                  refine aw_sldq ex40 dL_law_331 ?_
                  obtain ⟨y41, ey41, hF⟩ := qbind hF
                  refine aw_callVi (As := [.int x40]) (sX7_change hW h1 ey41) cl_L_41 rfl (qroomW (by decide) (by decide) hcap) rfl h1 (Nat.le_of_ble_eq_true rfl) dL_law_332 rfl ?_
                  refine aw_aload_n dL_law_335 2 rfl rfl ?_
                  refine aw_aload_n dL_law_336 0 rfl rfl ?_
                  refine aw_iload_n dL_law_337 3 rfl rfl ?_
                  refine aw_iconst (v := (1 : Int32)) dL_law_338 (by decide) ?_
                  refine aw_iadd dL_law_339 ?_
                  refine aw_sldq ex40 dL_law_340 ?_
                  obtain ⟨y42, ey42, hF⟩ := qbind hF
                  refine aw_callVi (As := [.int x40]) (sX8_change hW h2 ey42) cl_L_44 rfl (qroomW (by decide) (by decide) hcap) rfl h2 (Nat.le_of_ble_eq_true rfl) dL_law_341 rfl ?_
                  refine aw_icmp_eq (tgt := 768) dL_law_344 (by decide) (fun c43 => ?_) (fun c43 => ?_)
                  · rw [if_pos c43] at hF
                    refine aw_iinc (q := 3) (v := (v3 + 6)) (lv' := [(3, .int (v3 + 6)), (0, .ref b), (1, .ref (G.1 + b1)), (2, .ref (G.1 + b2))]) dL_law_768 rfl rfl (Nat.le_of_ble_eq_true rfl) rfl ?_
                    refine aw_goto (tgt := 18) dL_law_771 (by decide) ?_
                    cases hF
                    exact aw_sub [1, 2, 3, 0] rfl (hc ((v3 + 6), y42.2, R) rfl hW h1 h2)
                  · rw [if_neg c43] at hF
                    refine aw_iconst (v := (0 : Int32)) dL_law_347 (by decide) ?_
                    cases hF
                · rw [if_neg c39] at hF
                  by_cases c44 : (x2 &&& (31 : Int32)) = (7 : Int32)
                  · rw [if_pos c44] at hF
                    refine aw_tableEq (tgt := 349) dL_law_33 c44 (by decide) (by decide) rfl (by decide) ?_
                    refine aw_aload_n dL_law_349 1 rfl rfl ?_
                    refine aw_aload_n dL_law_350 0 rfl rfl ?_
                    refine aw_iload_n dL_law_351 3 rfl rfl ?_
                    refine aw_iconst (v := (1 : Int32)) dL_law_352 (by decide) ?_
                    refine aw_iadd dL_law_353 ?_
                    obtain ⟨x45, ex45, hF⟩ := qbind hF
                    refine aw_sldq ex45 dL_law_354 ?_
                    obtain ⟨y46, ey46, hF⟩ := qbind hF
                    refine aw_callVi (As := [.int x45]) (sX7_about hW h1 ey46) cl_L_45 rfl (qroomW (by decide) (by decide) hcap) rfl h1 (Nat.le_of_ble_eq_true rfl) dL_law_355 rfl ?_
                    refine aw_aload_n dL_law_358 2 rfl rfl ?_
                    refine aw_aload_n dL_law_359 0 rfl rfl ?_
                    refine aw_iload_n dL_law_360 3 rfl rfl ?_
                    refine aw_iconst (v := (1 : Int32)) dL_law_361 (by decide) ?_
                    refine aw_iadd dL_law_362 ?_
                    refine aw_sldq ex45 dL_law_363 ?_
                    obtain ⟨y47, ey47, hF⟩ := qbind hF
                    refine aw_callVi (As := [.int x45]) (sX8_about hW h2 ey47) cl_L_48 rfl (qroomW (by decide) (by decide) hcap) rfl h2 (Nat.le_of_ble_eq_true rfl) dL_law_364 rfl ?_
                    refine aw_icmp_eq (tgt := 768) dL_law_367 (by decide) (fun c48 => ?_) (fun c48 => ?_)
                    · rw [if_pos c48] at hF
                      refine aw_iinc (q := 3) (v := (v3 + 6)) (lv' := [(3, .int (v3 + 6)), (0, .ref b), (1, .ref (G.1 + b1)), (2, .ref (G.1 + b2))]) dL_law_768 rfl rfl (Nat.le_of_ble_eq_true rfl) rfl ?_
                      refine aw_goto (tgt := 18) dL_law_771 (by decide) ?_
                      cases hF
                      exact aw_sub [1, 2, 3, 0] rfl (hc ((v3 + 6), y47.2, R) rfl hW h1 h2)
                    · rw [if_neg c48] at hF
                      refine aw_iconst (v := (0 : Int32)) dL_law_370 (by decide) ?_
                      cases hF
                  · rw [if_neg c44] at hF
                    by_cases c49 : (x2 &&& (31 : Int32)) = (8 : Int32)
                    · rw [if_pos c49] at hF
                      refine aw_tableEq (tgt := 372) dL_law_33 c49 (by decide) (by decide) rfl (by decide) ?_
                      refine aw_aload_n dL_law_372 1 rfl rfl ?_
                      refine aw_aload_n dL_law_373 0 rfl rfl ?_
                      refine aw_iload_n dL_law_374 3 rfl rfl ?_
                      refine aw_iconst (v := (1 : Int32)) dL_law_375 (by decide) ?_
                      refine aw_iadd dL_law_376 ?_
                      obtain ⟨x50, ex50, hF⟩ := qbind hF
                      refine aw_sldq ex50 dL_law_377 ?_
                      refine aw_aload_n dL_law_378 0 rfl rfl ?_
                      refine aw_iload_n dL_law_379 3 rfl rfl ?_
                      refine aw_iconst (v := (2 : Int32)) dL_law_380 (by decide) ?_
                      refine aw_iadd dL_law_381 ?_
                      obtain ⟨x51, ex51, hF⟩ := qbind hF
                      refine aw_sldq ex51 dL_law_382 ?_
                      obtain ⟨y52, ey52, hF⟩ := qbind hF
                      refine aw_callVi (As := [.int x50, .int x51]) (sX7_signs hW h1 ey52) cl_L_49 rfl (qroomW (by decide) (by decide) hcap) rfl h1 (Nat.le_of_ble_eq_true rfl) dL_law_383 rfl ?_
                      refine aw_aload_n dL_law_386 2 rfl rfl ?_
                      refine aw_aload_n dL_law_387 0 rfl rfl ?_
                      refine aw_iload_n dL_law_388 3 rfl rfl ?_
                      refine aw_iconst (v := (1 : Int32)) dL_law_389 (by decide) ?_
                      refine aw_iadd dL_law_390 ?_
                      refine aw_sldq ex50 dL_law_391 ?_
                      refine aw_aload_n dL_law_392 0 rfl rfl ?_
                      refine aw_iload_n dL_law_393 3 rfl rfl ?_
                      refine aw_iconst (v := (2 : Int32)) dL_law_394 (by decide) ?_
                      refine aw_iadd dL_law_395 ?_
                      refine aw_sldq ex51 dL_law_396 ?_
                      obtain ⟨y53, ey53, hF⟩ := qbind hF
                      refine aw_callVi (As := [.int x50, .int x51]) (sX8_signs hW h2 ey53) cl_L_53 rfl (qroomW (by decide) (by decide) hcap) rfl h2 (Nat.le_of_ble_eq_true rfl) dL_law_397 rfl ?_
                      refine aw_icmp_eq (tgt := 768) dL_law_400 (by decide) (fun c54 => ?_) (fun c54 => ?_)
                      · rw [if_pos c54] at hF
                        refine aw_iinc (q := 3) (v := (v3 + 6)) (lv' := [(3, .int (v3 + 6)), (0, .ref b), (1, .ref (G.1 + b1)), (2, .ref (G.1 + b2))]) dL_law_768 rfl rfl (Nat.le_of_ble_eq_true rfl) rfl ?_
                        refine aw_goto (tgt := 18) dL_law_771 (by decide) ?_
                        cases hF
                        exact aw_sub [1, 2, 3, 0] rfl (hc ((v3 + 6), y53.2, R) rfl hW h1 h2)
                      · rw [if_neg c54] at hF
                        refine aw_iconst (v := (0 : Int32)) dL_law_403 (by decide) ?_
                        cases hF
                    · rw [if_neg c49] at hF
                      by_cases c55 : (x2 &&& (31 : Int32)) = (9 : Int32)
                      · rw [if_pos c55] at hF
                        refine aw_tableEq (tgt := 405) dL_law_33 c55 (by decide) (by decide) rfl (by decide) ?_
                        refine aw_aload_n dL_law_405 1 rfl rfl ?_
                        refine aw_aload_n dL_law_406 0 rfl rfl ?_
                        refine aw_iload_n dL_law_407 3 rfl rfl ?_
                        refine aw_iconst (v := (1 : Int32)) dL_law_408 (by decide) ?_
                        refine aw_iadd dL_law_409 ?_
                        obtain ⟨x56, ex56, hF⟩ := qbind hF
                        refine aw_sldq ex56 dL_law_410 ?_
                        obtain ⟨y57, ey57, hF⟩ := qbind hF
                        obtain ⟨_, hcap, hF⟩ := qbind hF
                        replace hcap := qck_some hcap
                        have eX := eX7_table hW h1 ey57
                        have hM := fun {l : Launch} {G : qG} => sX7_table (l := l) (G := G) hW h1 ey57
                        have hrec0 := h1
                        have E : qExt R y57.2.2 := eX.2
                        have hW : qWT y57.2.2 := eX.1
                        have h1 : qok y57.2.2 b1 7 := h1.ext E
                        have h2 : qok y57.2.2 b2 8 := h2.ext E
                        refine aw_callVi (As := [.int x56]) hM cl_L_54 rfl (qroomW (by decide) (by decide) hcap) rfl hrec0 (Nat.le_of_ble_eq_true rfl) dL_law_411 rfl ?_
                        refine aw_aload_n dL_law_414 2 rfl rfl ?_
                        refine aw_aload_n dL_law_415 0 rfl rfl ?_
                        refine aw_iload_n dL_law_416 3 rfl rfl ?_
                        refine aw_iconst (v := (1 : Int32)) dL_law_417 (by decide) ?_
                        refine aw_iadd dL_law_418 ?_
                        refine aw_sldq ex56 dL_law_419 ?_
                        obtain ⟨y58, ey58, hF⟩ := qbind hF
                        refine aw_callVi (As := [.int x56]) (sX8_table hW h2 ey58) cl_L_57 rfl (qroomW (by decide) (by decide) hcap) rfl h2 (Nat.le_of_ble_eq_true rfl) dL_law_420 rfl ?_
                        refine aw_icmp_eq (tgt := 768) dL_law_423 (by decide) (fun c59 => ?_) (fun c59 => ?_)
                        · rw [if_pos c59] at hF
                          refine aw_iinc (q := 3) (v := (v3 + 6)) (lv' := [(3, .int (v3 + 6)), (0, .ref b), (1, .ref (G.1 + b1)), (2, .ref (G.1 + b2))]) dL_law_768 rfl rfl (Nat.le_of_ble_eq_true rfl) rfl ?_
                          refine aw_goto (tgt := 18) dL_law_771 (by decide) ?_
                          cases hF
                          exact aw_sub [1, 2, 3, 0] rfl (hc ((v3 + 6), y58.2, y57.2.2) rfl hW h1 h2)
                        · rw [if_neg c59] at hF
                          refine aw_iconst (v := (0 : Int32)) dL_law_426 (by decide) ?_
                          cases hF
                      · rw [if_neg c55] at hF
                        by_cases c60 : (x2 &&& (31 : Int32)) = (10 : Int32)
                        · rw [if_pos c60] at hF
                          refine aw_tableEq (tgt := 428) dL_law_33 c60 (by decide) (by decide) rfl (by decide) ?_
                          refine aw_aload_n dL_law_428 1 rfl rfl ?_
                          refine aw_aload_n dL_law_429 0 rfl rfl ?_
                          refine aw_iload_n dL_law_430 3 rfl rfl ?_
                          refine aw_iconst (v := (1 : Int32)) dL_law_431 (by decide) ?_
                          refine aw_iadd dL_law_432 ?_
                          obtain ⟨x61, ex61, hF⟩ := qbind hF
                          refine aw_sldq ex61 dL_law_433 ?_
                          obtain ⟨y62, ey62, hF⟩ := qbind hF
                          refine aw_callVi (As := [.int x61]) (sX7_row hW h1 ey62) cl_L_58 rfl (qroomW (by decide) (by decide) hcap) rfl h1 (Nat.le_of_ble_eq_true rfl) dL_law_434 rfl ?_
                          refine aw_aload_n dL_law_437 2 rfl rfl ?_
                          refine aw_aload_n dL_law_438 0 rfl rfl ?_
                          refine aw_iload_n dL_law_439 3 rfl rfl ?_
                          refine aw_iconst (v := (1 : Int32)) dL_law_440 (by decide) ?_
                          refine aw_iadd dL_law_441 ?_
                          refine aw_sldq ex61 dL_law_442 ?_
                          obtain ⟨y63, ey63, hF⟩ := qbind hF
                          refine aw_callVi (As := [.int x61]) (sX8_row hW h2 ey63) cl_L_61 rfl (qroomW (by decide) (by decide) hcap) rfl h2 (Nat.le_of_ble_eq_true rfl) dL_law_443 rfl ?_
                          refine aw_icmp_eq (tgt := 768) dL_law_446 (by decide) (fun c64 => ?_) (fun c64 => ?_)
                          · rw [if_pos c64] at hF
                            refine aw_iinc (q := 3) (v := (v3 + 6)) (lv' := [(3, .int (v3 + 6)), (0, .ref b), (1, .ref (G.1 + b1)), (2, .ref (G.1 + b2))]) dL_law_768 rfl rfl (Nat.le_of_ble_eq_true rfl) rfl ?_
                            refine aw_goto (tgt := 18) dL_law_771 (by decide) ?_
                            cases hF
                            exact aw_sub [1, 2, 3, 0] rfl (hc ((v3 + 6), y63.2, R) rfl hW h1 h2)
                          · rw [if_neg c64] at hF
                            refine aw_iconst (v := (0 : Int32)) dL_law_449 (by decide) ?_
                            cases hF
                        · rw [if_neg c60] at hF
                          by_cases c65 : (x2 &&& (31 : Int32)) = (11 : Int32)
                          · rw [if_pos c65] at hF
                            refine aw_tableEq (tgt := 451) dL_law_33 c65 (by decide) (by decide) rfl (by decide) ?_
                            refine aw_aload_n dL_law_451 1 rfl rfl ?_
                            refine aw_aload_n dL_law_452 0 rfl rfl ?_
                            refine aw_iload_n dL_law_453 3 rfl rfl ?_
                            refine aw_iconst (v := (1 : Int32)) dL_law_454 (by decide) ?_
                            refine aw_iadd dL_law_455 ?_
                            obtain ⟨x66, ex66, hF⟩ := qbind hF
                            refine aw_sldq ex66 dL_law_456 ?_
                            obtain ⟨y67, ey67, hF⟩ := qbind hF
                            refine aw_callVi (As := [.int x66]) (sX7_column hW h1 ey67) cl_L_62 rfl (qroomW (by decide) (by decide) hcap) rfl h1 (Nat.le_of_ble_eq_true rfl) dL_law_457 rfl ?_
                            refine aw_aload_n dL_law_460 2 rfl rfl ?_
                            refine aw_aload_n dL_law_461 0 rfl rfl ?_
                            refine aw_iload_n dL_law_462 3 rfl rfl ?_
                            refine aw_iconst (v := (1 : Int32)) dL_law_463 (by decide) ?_
                            refine aw_iadd dL_law_464 ?_
                            refine aw_sldq ex66 dL_law_465 ?_
                            obtain ⟨y68, ey68, hF⟩ := qbind hF
                            refine aw_callVi (As := [.int x66]) (sX8_column hW h2 ey68) cl_L_65 rfl (qroomW (by decide) (by decide) hcap) rfl h2 (Nat.le_of_ble_eq_true rfl) dL_law_466 rfl ?_
                            refine aw_icmp_eq (tgt := 768) dL_law_469 (by decide) (fun c69 => ?_) (fun c69 => ?_)
                            · rw [if_pos c69] at hF
                              refine aw_iinc (q := 3) (v := (v3 + 6)) (lv' := [(3, .int (v3 + 6)), (0, .ref b), (1, .ref (G.1 + b1)), (2, .ref (G.1 + b2))]) dL_law_768 rfl rfl (Nat.le_of_ble_eq_true rfl) rfl ?_
                              refine aw_goto (tgt := 18) dL_law_771 (by decide) ?_
                              cases hF
                              exact aw_sub [1, 2, 3, 0] rfl (hc ((v3 + 6), y68.2, R) rfl hW h1 h2)
                            · rw [if_neg c69] at hF
                              refine aw_iconst (v := (0 : Int32)) dL_law_472 (by decide) ?_
                              cases hF
                          · rw [if_neg c65] at hF
                            by_cases c70 : (x2 &&& (31 : Int32)) = (12 : Int32)
                            · rw [if_pos c70] at hF
                              refine aw_tableEq (tgt := 474) dL_law_33 c70 (by decide) (by decide) rfl (by decide) ?_
                              refine aw_aload_n dL_law_474 1 rfl rfl ?_
                              refine aw_aload_n dL_law_475 0 rfl rfl ?_
                              refine aw_iload_n dL_law_476 3 rfl rfl ?_
                              refine aw_iconst (v := (1 : Int32)) dL_law_477 (by decide) ?_
                              refine aw_iadd dL_law_478 ?_
                              obtain ⟨x71, ex71, hF⟩ := qbind hF
                              refine aw_sldq ex71 dL_law_479 ?_
                              refine aw_aload_n dL_law_480 0 rfl rfl ?_
                              refine aw_iload_n dL_law_481 3 rfl rfl ?_
                              refine aw_iconst (v := (2 : Int32)) dL_law_482 (by decide) ?_
                              refine aw_iadd dL_law_483 ?_
                              obtain ⟨x72, ex72, hF⟩ := qbind hF
                              refine aw_sldq ex72 dL_law_484 ?_
                              refine aw_aload_n dL_law_485 0 rfl rfl ?_
                              refine aw_iload_n dL_law_486 3 rfl rfl ?_
                              refine aw_iconst (v := (3 : Int32)) dL_law_487 (by decide) ?_
                              refine aw_iadd dL_law_488 ?_
                              obtain ⟨x73, ex73, hF⟩ := qbind hF
                              refine aw_sldq ex73 dL_law_489 ?_
                              obtain ⟨y74, ey74, hF⟩ := qbind hF
                              refine aw_callVi (As := [.int x71, .int x72, .int x73]) (sX7_cell hW h1 ey74) cl_L_66 rfl (qroomW (by decide) (by decide) hcap) rfl h1 (Nat.le_of_ble_eq_true rfl) dL_law_490 rfl ?_
                              refine aw_aload_n dL_law_493 2 rfl rfl ?_
                              refine aw_aload_n dL_law_494 0 rfl rfl ?_
                              refine aw_iload_n dL_law_495 3 rfl rfl ?_
                              refine aw_iconst (v := (1 : Int32)) dL_law_496 (by decide) ?_
                              refine aw_iadd dL_law_497 ?_
                              refine aw_sldq ex71 dL_law_498 ?_
                              refine aw_aload_n dL_law_499 0 rfl rfl ?_
                              refine aw_iload_n dL_law_500 3 rfl rfl ?_
                              refine aw_iconst (v := (2 : Int32)) dL_law_501 (by decide) ?_
                              refine aw_iadd dL_law_502 ?_
                              refine aw_sldq ex72 dL_law_503 ?_
                              refine aw_aload_n dL_law_504 0 rfl rfl ?_
                              refine aw_iload_n dL_law_505 3 rfl rfl ?_
                              refine aw_iconst (v := (3 : Int32)) dL_law_506 (by decide) ?_
                              refine aw_iadd dL_law_507 ?_
                              refine aw_sldq ex73 dL_law_508 ?_
                              obtain ⟨y75, ey75, hF⟩ := qbind hF
                              refine aw_callVi (As := [.int x71, .int x72, .int x73]) (sX8_cell hW h2 ey75) cl_L_70 rfl (qroomW (by decide) (by decide) hcap) rfl h2 (Nat.le_of_ble_eq_true rfl) dL_law_509 rfl ?_
                              refine aw_icmp_eq (tgt := 768) dL_law_512 (by decide) (fun c76 => ?_) (fun c76 => ?_)
                              · rw [if_pos c76] at hF
                                refine aw_iinc (q := 3) (v := (v3 + 6)) (lv' := [(3, .int (v3 + 6)), (0, .ref b), (1, .ref (G.1 + b1)), (2, .ref (G.1 + b2))]) dL_law_768 rfl rfl (Nat.le_of_ble_eq_true rfl) rfl ?_
                                refine aw_goto (tgt := 18) dL_law_771 (by decide) ?_
                                cases hF
                                exact aw_sub [1, 2, 3, 0] rfl (hc ((v3 + 6), y75.2, R) rfl hW h1 h2)
                              · rw [if_neg c76] at hF
                                refine aw_iconst (v := (0 : Int32)) dL_law_515 (by decide) ?_
                                cases hF
                            · rw [if_neg c70] at hF
                              by_cases c77 : (x2 &&& (31 : Int32)) = (13 : Int32)
                              · rw [if_pos c77] at hF
                                refine aw_tableEq (tgt := 517) dL_law_33 c77 (by decide) (by decide) rfl (by decide) ?_
                                refine aw_aload_n dL_law_517 1 rfl rfl ?_
                                refine aw_aload_n dL_law_518 0 rfl rfl ?_
                                refine aw_iload_n dL_law_519 3 rfl rfl ?_
                                refine aw_iconst (v := (1 : Int32)) dL_law_520 (by decide) ?_
                                refine aw_iadd dL_law_521 ?_
                                obtain ⟨x78, ex78, hF⟩ := qbind hF
                                refine aw_sldq ex78 dL_law_522 ?_
                                obtain ⟨y79, ey79, hF⟩ := qbind hF
                                refine aw_callVi (As := [.int x78]) (sX7_breaches hW h1 ey79) cl_L_71 rfl (qroomW (by decide) (by decide) hcap) rfl h1 (Nat.le_of_ble_eq_true rfl) dL_law_523 rfl ?_
                                refine aw_aload_n dL_law_526 2 rfl rfl ?_
                                refine aw_aload_n dL_law_527 0 rfl rfl ?_
                                refine aw_iload_n dL_law_528 3 rfl rfl ?_
                                refine aw_iconst (v := (1 : Int32)) dL_law_529 (by decide) ?_
                                refine aw_iadd dL_law_530 ?_
                                refine aw_sldq ex78 dL_law_531 ?_
                                obtain ⟨y80, ey80, hF⟩ := qbind hF
                                refine aw_callVi (As := [.int x78]) (sX8_breaches hW h2 ey80) cl_L_74 rfl (qroomW (by decide) (by decide) hcap) rfl h2 (Nat.le_of_ble_eq_true rfl) dL_law_532 rfl ?_
                                refine aw_icmp_eq (tgt := 768) dL_law_535 (by decide) (fun c81 => ?_) (fun c81 => ?_)
                                · rw [if_pos c81] at hF
                                  refine aw_iinc (q := 3) (v := (v3 + 6)) (lv' := [(3, .int (v3 + 6)), (0, .ref b), (1, .ref (G.1 + b1)), (2, .ref (G.1 + b2))]) dL_law_768 rfl rfl (Nat.le_of_ble_eq_true rfl) rfl ?_
                                  refine aw_goto (tgt := 18) dL_law_771 (by decide) ?_
                                  cases hF
                                  exact aw_sub [1, 2, 3, 0] rfl (hc ((v3 + 6), y80.2, R) rfl hW h1 h2)
                                · rw [if_neg c81] at hF
                                  refine aw_iconst (v := (0 : Int32)) dL_law_538 (by decide) ?_
                                  cases hF
                              · rw [if_neg c77] at hF
                                by_cases c82 : (x2 &&& (31 : Int32)) = (14 : Int32)
                                · rw [if_pos c82] at hF
                                  refine aw_tableEq (tgt := 540) dL_law_33 c82 (by decide) (by decide) rfl (by decide) ?_
                                  refine aw_aload_n dL_law_540 1 rfl rfl ?_
                                  refine aw_aload_n dL_law_541 0 rfl rfl ?_
                                  refine aw_iload_n dL_law_542 3 rfl rfl ?_
                                  refine aw_iconst (v := (1 : Int32)) dL_law_543 (by decide) ?_
                                  refine aw_iadd dL_law_544 ?_
                                  obtain ⟨x83, ex83, hF⟩ := qbind hF
                                  refine aw_sldq ex83 dL_law_545 ?_
                                  refine aw_aload_n dL_law_546 0 rfl rfl ?_
                                  refine aw_iload_n dL_law_547 3 rfl rfl ?_
                                  refine aw_iconst (v := (2 : Int32)) dL_law_548 (by decide) ?_
                                  refine aw_iadd dL_law_549 ?_
                                  obtain ⟨x84, ex84, hF⟩ := qbind hF
                                  refine aw_sldq ex84 dL_law_550 ?_
                                  obtain ⟨y85, ey85, hF⟩ := qbind hF
                                  refine aw_callVi (As := [.int x83, .int x84]) (sX7_breach hW h1 ey85) cl_L_75 rfl (qroomW (by decide) (by decide) hcap) rfl h1 (Nat.le_of_ble_eq_true rfl) dL_law_551 rfl ?_
                                  refine aw_aload_n dL_law_554 2 rfl rfl ?_
                                  refine aw_aload_n dL_law_555 0 rfl rfl ?_
                                  refine aw_iload_n dL_law_556 3 rfl rfl ?_
                                  refine aw_iconst (v := (1 : Int32)) dL_law_557 (by decide) ?_
                                  refine aw_iadd dL_law_558 ?_
                                  refine aw_sldq ex83 dL_law_559 ?_
                                  refine aw_aload_n dL_law_560 0 rfl rfl ?_
                                  refine aw_iload_n dL_law_561 3 rfl rfl ?_
                                  refine aw_iconst (v := (2 : Int32)) dL_law_562 (by decide) ?_
                                  refine aw_iadd dL_law_563 ?_
                                  refine aw_sldq ex84 dL_law_564 ?_
                                  obtain ⟨y86, ey86, hF⟩ := qbind hF
                                  refine aw_callVi (As := [.int x83, .int x84]) (sX8_breach hW h2 ey86) cl_L_78 rfl (qroomW (by decide) (by decide) hcap) rfl h2 (Nat.le_of_ble_eq_true rfl) dL_law_565 rfl ?_
                                  refine aw_icmp_eq (tgt := 768) dL_law_568 (by decide) (fun c87 => ?_) (fun c87 => ?_)
                                  · rw [if_pos c87] at hF
                                    refine aw_iinc (q := 3) (v := (v3 + 6)) (lv' := [(3, .int (v3 + 6)), (0, .ref b), (1, .ref (G.1 + b1)), (2, .ref (G.1 + b2))]) dL_law_768 rfl rfl (Nat.le_of_ble_eq_true rfl) rfl ?_
                                    refine aw_goto (tgt := 18) dL_law_771 (by decide) ?_
                                    cases hF
                                    exact aw_sub [1, 2, 3, 0] rfl (hc ((v3 + 6), y86.2, R) rfl hW h1 h2)
                                  · rw [if_neg c87] at hF
                                    refine aw_iconst (v := (0 : Int32)) dL_law_571 (by decide) ?_
                                    cases hF
                                · rw [if_neg c82] at hF
                                  by_cases c88 : (x2 &&& (31 : Int32)) = (15 : Int32)
                                  · rw [if_pos c88] at hF
                                    refine aw_tableEq (tgt := 573) dL_law_33 c88 (by decide) (by decide) rfl (by decide) ?_
                                    refine aw_aload_n dL_law_573 1 rfl rfl ?_
                                    obtain ⟨y89, ey89, hF⟩ := qbind hF
                                    refine aw_callVi (As := []) (sX7_lanes hW h1 ey89) cl_L_79 rfl (qroomW (by decide) (by decide) hcap) rfl h1 (Nat.le_of_ble_eq_true rfl) dL_law_574 rfl ?_
                                    refine aw_aload_n dL_law_577 2 rfl rfl ?_
                                    obtain ⟨y90, ey90, hF⟩ := qbind hF
                                    refine aw_callVi (As := []) (sX8_lanes hW h2 ey90) cl_L_83 rfl (qroomW (by decide) (by decide) hcap) rfl h2 (Nat.le_of_ble_eq_true rfl) dL_law_578 rfl ?_
                                    refine aw_icmp_eq (tgt := 768) dL_law_581 (by decide) (fun c91 => ?_) (fun c91 => ?_)
                                    · rw [if_pos c91] at hF
                                      refine aw_iinc (q := 3) (v := (v3 + 6)) (lv' := [(3, .int (v3 + 6)), (0, .ref b), (1, .ref (G.1 + b1)), (2, .ref (G.1 + b2))]) dL_law_768 rfl rfl (Nat.le_of_ble_eq_true rfl) rfl ?_
                                      refine aw_goto (tgt := 18) dL_law_771 (by decide) ?_
                                      cases hF
                                      exact aw_sub [1, 2, 3, 0] rfl (hc ((v3 + 6), y90.2, R) rfl hW h1 h2)
                                    · rw [if_neg c91] at hF
                                      refine aw_iconst (v := (0 : Int32)) dL_law_584 (by decide) ?_
                                      cases hF
                                  · rw [if_neg c88] at hF
                                    by_cases c92 : (x2 &&& (31 : Int32)) = (16 : Int32)
                                    · rw [if_pos c92] at hF
                                      refine aw_tableEq (tgt := 586) dL_law_33 c92 (by decide) (by decide) rfl (by decide) ?_
                                      refine aw_aload_n dL_law_586 1 rfl rfl ?_
                                      refine aw_aload_n dL_law_587 0 rfl rfl ?_
                                      refine aw_iload_n dL_law_588 3 rfl rfl ?_
                                      refine aw_iconst (v := (1 : Int32)) dL_law_589 (by decide) ?_
                                      refine aw_iadd dL_law_590 ?_
                                      obtain ⟨x93, ex93, hF⟩ := qbind hF
                                      refine aw_sldq ex93 dL_law_591 ?_
                                      obtain ⟨y94, ey94, hF⟩ := qbind hF
                                      refine aw_callVi (As := [.int x93]) (sX7_lane hW h1 ey94) cl_L_84 rfl (qroomW (by decide) (by decide) hcap) rfl h1 (Nat.le_of_ble_eq_true rfl) dL_law_592 rfl ?_
                                      refine aw_aload_n dL_law_595 2 rfl rfl ?_
                                      refine aw_aload_n dL_law_596 0 rfl rfl ?_
                                      refine aw_iload_n dL_law_597 3 rfl rfl ?_
                                      refine aw_iconst (v := (1 : Int32)) dL_law_598 (by decide) ?_
                                      refine aw_iadd dL_law_599 ?_
                                      refine aw_sldq ex93 dL_law_600 ?_
                                      obtain ⟨y95, ey95, hF⟩ := qbind hF
                                      refine aw_callVi (As := [.int x93]) (sX8_lane hW h2 ey95) cl_L_87 rfl (qroomW (by decide) (by decide) hcap) rfl h2 (Nat.le_of_ble_eq_true rfl) dL_law_601 rfl ?_
                                      refine aw_icmp_eq (tgt := 768) dL_law_604 (by decide) (fun c96 => ?_) (fun c96 => ?_)
                                      · rw [if_pos c96] at hF
                                        refine aw_iinc (q := 3) (v := (v3 + 6)) (lv' := [(3, .int (v3 + 6)), (0, .ref b), (1, .ref (G.1 + b1)), (2, .ref (G.1 + b2))]) dL_law_768 rfl rfl (Nat.le_of_ble_eq_true rfl) rfl ?_
                                        refine aw_goto (tgt := 18) dL_law_771 (by decide) ?_
                                        cases hF
                                        exact aw_sub [1, 2, 3, 0] rfl (hc ((v3 + 6), y95.2, R) rfl hW h1 h2)
                                      · rw [if_neg c96] at hF
                                        refine aw_iconst (v := (0 : Int32)) dL_law_607 (by decide) ?_
                                        cases hF
                                    · rw [if_neg c92] at hF
                                      by_cases c97 : (x2 &&& (31 : Int32)) = (17 : Int32)
                                      · rw [if_pos c97] at hF
                                        refine aw_tableEq (tgt := 609) dL_law_33 c97 (by decide) (by decide) rfl (by decide) ?_
                                        refine aw_aload_n dL_law_609 1 rfl rfl ?_
                                        refine aw_aload_n dL_law_610 0 rfl rfl ?_
                                        refine aw_iload_n dL_law_611 3 rfl rfl ?_
                                        refine aw_iconst (v := (1 : Int32)) dL_law_612 (by decide) ?_
                                        refine aw_iadd dL_law_613 ?_
                                        obtain ⟨x98, ex98, hF⟩ := qbind hF
                                        refine aw_sldq ex98 dL_law_614 ?_
                                        refine aw_aload_n dL_law_615 0 rfl rfl ?_
                                        refine aw_iload_n dL_law_616 3 rfl rfl ?_
                                        refine aw_iconst (v := (2 : Int32)) dL_law_617 (by decide) ?_
                                        refine aw_iadd dL_law_618 ?_
                                        obtain ⟨x99, ex99, hF⟩ := qbind hF
                                        refine aw_sldq ex99 dL_law_619 ?_
                                        refine aw_aload_n dL_law_620 0 rfl rfl ?_
                                        refine aw_iload_n dL_law_621 3 rfl rfl ?_
                                        refine aw_iconst (v := (3 : Int32)) dL_law_622 (by decide) ?_
                                        refine aw_iadd dL_law_623 ?_
                                        obtain ⟨x100, ex100, hF⟩ := qbind hF
                                        refine aw_sldq ex100 dL_law_624 ?_
                                        refine aw_aload_n dL_law_625 0 rfl rfl ?_
                                        refine aw_iload_n dL_law_626 3 rfl rfl ?_
                                        refine aw_iconst (v := (4 : Int32)) dL_law_627 (by decide) ?_
                                        refine aw_iadd dL_law_628 ?_
                                        obtain ⟨x101, ex101, hF⟩ := qbind hF
                                        refine aw_sldq ex101 dL_law_629 ?_
                                        refine aw_aload_n dL_law_630 0 rfl rfl ?_
                                        refine aw_iload_n dL_law_631 3 rfl rfl ?_
                                        refine aw_iconst (v := (5 : Int32)) dL_law_632 (by decide) ?_
                                        refine aw_iadd dL_law_633 ?_
                                        obtain ⟨x102, ex102, hF⟩ := qbind hF
                                        refine aw_sldq ex102 dL_law_634 ?_
                                        obtain ⟨y103, ey103, hF⟩ := qbind hF
                                        obtain ⟨_, hcap, hF⟩ := qbind hF
                                        replace hcap := qck_some hcap
                                        have eX := eX7_way hW h1 ey103
                                        have hM := fun {l : Launch} {G : qG} => sX7_way (l := l) (G := G) hW h1 ey103
                                        have hrec0 := h1
                                        have E : qExt R y103.2.2 := eX.2
                                        have hW : qWT y103.2.2 := eX.1
                                        have h1 : qok y103.2.2 b1 7 := h1.ext E
                                        have h2 : qok y103.2.2 b2 8 := h2.ext E
                                        refine aw_callVi (As := [.int x98, .int x99, .int x100, .int x101, .int x102]) hM cl_L_88 rfl (qroomW (by decide) (by decide) hcap) rfl hrec0 (Nat.le_of_ble_eq_true rfl) dL_law_635 rfl ?_
                                        refine aw_aload_n dL_law_638 2 rfl rfl ?_
                                        refine aw_aload_n dL_law_639 0 rfl rfl ?_
                                        refine aw_iload_n dL_law_640 3 rfl rfl ?_
                                        refine aw_iconst (v := (1 : Int32)) dL_law_641 (by decide) ?_
                                        refine aw_iadd dL_law_642 ?_
                                        refine aw_sldq ex98 dL_law_643 ?_
                                        refine aw_aload_n dL_law_644 0 rfl rfl ?_
                                        refine aw_iload_n dL_law_645 3 rfl rfl ?_
                                        refine aw_iconst (v := (2 : Int32)) dL_law_646 (by decide) ?_
                                        refine aw_iadd dL_law_647 ?_
                                        refine aw_sldq ex99 dL_law_648 ?_
                                        refine aw_aload_n dL_law_649 0 rfl rfl ?_
                                        refine aw_iload_n dL_law_650 3 rfl rfl ?_
                                        refine aw_iconst (v := (3 : Int32)) dL_law_651 (by decide) ?_
                                        refine aw_iadd dL_law_652 ?_
                                        refine aw_sldq ex100 dL_law_653 ?_
                                        refine aw_aload_n dL_law_654 0 rfl rfl ?_
                                        refine aw_iload_n dL_law_655 3 rfl rfl ?_
                                        refine aw_iconst (v := (4 : Int32)) dL_law_656 (by decide) ?_
                                        refine aw_iadd dL_law_657 ?_
                                        refine aw_sldq ex101 dL_law_658 ?_
                                        refine aw_aload_n dL_law_659 0 rfl rfl ?_
                                        refine aw_iload_n dL_law_660 3 rfl rfl ?_
                                        refine aw_iconst (v := (5 : Int32)) dL_law_661 (by decide) ?_
                                        refine aw_iadd dL_law_662 ?_
                                        refine aw_sldq ex102 dL_law_663 ?_
                                        obtain ⟨y104, ey104, hF⟩ := qbind hF
                                        refine aw_callVi (As := [.int x98, .int x99, .int x100, .int x101, .int x102]) (sX8_way hW h2 ey104) cl_L_92 rfl (qroomW (by decide) (by decide) hcap) rfl h2 (Nat.le_of_ble_eq_true rfl) dL_law_664 rfl ?_
                                        refine aw_icmp_eq (tgt := 768) dL_law_667 (by decide) (fun c105 => ?_) (fun c105 => ?_)
                                        · rw [if_pos c105] at hF
                                          refine aw_iinc (q := 3) (v := (v3 + 6)) (lv' := [(3, .int (v3 + 6)), (0, .ref b), (1, .ref (G.1 + b1)), (2, .ref (G.1 + b2))]) dL_law_768 rfl rfl (Nat.le_of_ble_eq_true rfl) rfl ?_
                                          refine aw_goto (tgt := 18) dL_law_771 (by decide) ?_
                                          cases hF
                                          exact aw_sub [1, 2, 3, 0] rfl (hc ((v3 + 6), y104.2, y103.2.2) rfl hW h1 h2)
                                        · rw [if_neg c105] at hF
                                          refine aw_iconst (v := (0 : Int32)) dL_law_670 (by decide) ?_
                                          cases hF
                                      · rw [if_neg c97] at hF
                                        by_cases c106 : (x2 &&& (31 : Int32)) = (18 : Int32)
                                        · rw [if_pos c106] at hF
                                          refine aw_tableEq (tgt := 672) dL_law_33 c106 (by decide) (by decide) rfl (by decide) ?_
                                          refine aw_aload_n dL_law_672 1 rfl rfl ?_
                                          refine aw_aload_n dL_law_673 0 rfl rfl ?_
                                          refine aw_iload_n dL_law_674 3 rfl rfl ?_
                                          refine aw_iconst (v := (1 : Int32)) dL_law_675 (by decide) ?_
                                          refine aw_iadd dL_law_676 ?_
                                          obtain ⟨x107, ex107, hF⟩ := qbind hF
                                          refine aw_sldq ex107 dL_law_677 ?_
                                          refine aw_aload_n dL_law_678 0 rfl rfl ?_
                                          refine aw_iload_n dL_law_679 3 rfl rfl ?_
                                          refine aw_iconst (v := (2 : Int32)) dL_law_680 (by decide) ?_
                                          refine aw_iadd dL_law_681 ?_
                                          obtain ⟨x108, ex108, hF⟩ := qbind hF
                                          refine aw_sldq ex108 dL_law_682 ?_
                                          refine aw_aload_n dL_law_683 0 rfl rfl ?_
                                          refine aw_iload_n dL_law_684 3 rfl rfl ?_
                                          refine aw_iconst (v := (3 : Int32)) dL_law_685 (by decide) ?_
                                          refine aw_iadd dL_law_686 ?_
                                          obtain ⟨x109, ex109, hF⟩ := qbind hF
                                          refine aw_sldq ex109 dL_law_687 ?_
                                          obtain ⟨y110, ey110, hF⟩ := qbind hF
                                          obtain ⟨_, hcap, hF⟩ := qbind hF
                                          replace hcap := qck_some hcap
                                          have eX := eX7_departures hW h1 ey110
                                          have hM := fun {l : Launch} {G : qG} => sX7_departures (l := l) (G := G) hW h1 ey110
                                          have hrec0 := h1
                                          have E : qExt R y110.2.2 := eX.2
                                          have hW : qWT y110.2.2 := eX.1
                                          have h1 : qok y110.2.2 b1 7 := h1.ext E
                                          have h2 : qok y110.2.2 b2 8 := h2.ext E
                                          refine aw_callVi (As := [.int x107, .int x108, .int x109]) hM cl_L_93 rfl (qroomW (by decide) (by decide) hcap) rfl hrec0 (Nat.le_of_ble_eq_true rfl) dL_law_688 rfl ?_
                                          refine aw_aload_n dL_law_691 2 rfl rfl ?_
                                          refine aw_aload_n dL_law_692 0 rfl rfl ?_
                                          refine aw_iload_n dL_law_693 3 rfl rfl ?_
                                          refine aw_iconst (v := (1 : Int32)) dL_law_694 (by decide) ?_
                                          refine aw_iadd dL_law_695 ?_
                                          refine aw_sldq ex107 dL_law_696 ?_
                                          refine aw_aload_n dL_law_697 0 rfl rfl ?_
                                          refine aw_iload_n dL_law_698 3 rfl rfl ?_
                                          refine aw_iconst (v := (2 : Int32)) dL_law_699 (by decide) ?_
                                          refine aw_iadd dL_law_700 ?_
                                          refine aw_sldq ex108 dL_law_701 ?_
                                          refine aw_aload_n dL_law_702 0 rfl rfl ?_
                                          refine aw_iload_n dL_law_703 3 rfl rfl ?_
                                          refine aw_iconst (v := (3 : Int32)) dL_law_704 (by decide) ?_
                                          refine aw_iadd dL_law_705 ?_
                                          refine aw_sldq ex109 dL_law_706 ?_
                                          obtain ⟨y111, ey111, hF⟩ := qbind hF
                                          refine aw_callVi (As := [.int x107, .int x108, .int x109]) (sX8_departures hW h2 ey111) cl_L_96 rfl (qroomW (by decide) (by decide) hcap) rfl h2 (Nat.le_of_ble_eq_true rfl) dL_law_707 rfl ?_
                                          refine aw_icmp_eq (tgt := 768) dL_law_710 (by decide) (fun c112 => ?_) (fun c112 => ?_)
                                          · rw [if_pos c112] at hF
                                            refine aw_iinc (q := 3) (v := (v3 + 6)) (lv' := [(3, .int (v3 + 6)), (0, .ref b), (1, .ref (G.1 + b1)), (2, .ref (G.1 + b2))]) dL_law_768 rfl rfl (Nat.le_of_ble_eq_true rfl) rfl ?_
                                            refine aw_goto (tgt := 18) dL_law_771 (by decide) ?_
                                            cases hF
                                            exact aw_sub [1, 2, 3, 0] rfl (hc ((v3 + 6), y111.2, y110.2.2) rfl hW h1 h2)
                                          · rw [if_neg c112] at hF
                                            refine aw_iconst (v := (0 : Int32)) dL_law_713 (by decide) ?_
                                            cases hF
                                        · rw [if_neg c106] at hF
                                          by_cases c113 : (x2 &&& (31 : Int32)) = (19 : Int32)
                                          · rw [if_pos c113] at hF
                                            refine aw_tableEq (tgt := 715) dL_law_33 c113 (by decide) (by decide) rfl (by decide) ?_
                                            refine aw_aload_n dL_law_715 1 rfl rfl ?_
                                            refine aw_aload_n dL_law_716 0 rfl rfl ?_
                                            refine aw_iload_n dL_law_717 3 rfl rfl ?_
                                            refine aw_iconst (v := (1 : Int32)) dL_law_718 (by decide) ?_
                                            refine aw_iadd dL_law_719 ?_
                                            obtain ⟨x114, ex114, hF⟩ := qbind hF
                                            refine aw_sldq ex114 dL_law_720 ?_
                                            refine aw_aload_n dL_law_721 0 rfl rfl ?_
                                            refine aw_iload_n dL_law_722 3 rfl rfl ?_
                                            refine aw_iconst (v := (2 : Int32)) dL_law_723 (by decide) ?_
                                            refine aw_iadd dL_law_724 ?_
                                            obtain ⟨x115, ex115, hF⟩ := qbind hF
                                            refine aw_sldq ex115 dL_law_725 ?_
                                            refine aw_aload_n dL_law_726 0 rfl rfl ?_
                                            refine aw_iload_n dL_law_727 3 rfl rfl ?_
                                            refine aw_iconst (v := (3 : Int32)) dL_law_728 (by decide) ?_
                                            refine aw_iadd dL_law_729 ?_
                                            obtain ⟨x116, ex116, hF⟩ := qbind hF
                                            refine aw_sldq ex116 dL_law_730 ?_
                                            refine aw_aload_n dL_law_731 0 rfl rfl ?_
                                            refine aw_iload_n dL_law_732 3 rfl rfl ?_
                                            refine aw_iconst (v := (4 : Int32)) dL_law_733 (by decide) ?_
                                            refine aw_iadd dL_law_734 ?_
                                            obtain ⟨x117, ex117, hF⟩ := qbind hF
                                            refine aw_sldq ex117 dL_law_735 ?_
                                            obtain ⟨y118, ey118, hF⟩ := qbind hF
                                            obtain ⟨_, hcap, hF⟩ := qbind hF
                                            replace hcap := qck_some hcap
                                            have eX := eX7_departure hW h1 ey118
                                            have hM := fun {l : Launch} {G : qG} => sX7_departure (l := l) (G := G) hW h1 ey118
                                            have hrec0 := h1
                                            have E : qExt R y118.2.2 := eX.2
                                            have hW : qWT y118.2.2 := eX.1
                                            have h1 : qok y118.2.2 b1 7 := h1.ext E
                                            have h2 : qok y118.2.2 b2 8 := h2.ext E
                                            refine aw_callVi (As := [.int x114, .int x115, .int x116, .int x117]) hM cl_L_97 rfl (qroomW (by decide) (by decide) hcap) rfl hrec0 (Nat.le_of_ble_eq_true rfl) dL_law_736 rfl ?_
                                            refine aw_aload_n dL_law_739 2 rfl rfl ?_
                                            refine aw_aload_n dL_law_740 0 rfl rfl ?_
                                            refine aw_iload_n dL_law_741 3 rfl rfl ?_
                                            refine aw_iconst (v := (1 : Int32)) dL_law_742 (by decide) ?_
                                            refine aw_iadd dL_law_743 ?_
                                            refine aw_sldq ex114 dL_law_744 ?_
                                            refine aw_aload_n dL_law_745 0 rfl rfl ?_
                                            refine aw_iload_n dL_law_746 3 rfl rfl ?_
                                            refine aw_iconst (v := (2 : Int32)) dL_law_747 (by decide) ?_
                                            refine aw_iadd dL_law_748 ?_
                                            refine aw_sldq ex115 dL_law_749 ?_
                                            refine aw_aload_n dL_law_750 0 rfl rfl ?_
                                            refine aw_iload_n dL_law_751 3 rfl rfl ?_
                                            refine aw_iconst (v := (3 : Int32)) dL_law_752 (by decide) ?_
                                            refine aw_iadd dL_law_753 ?_
                                            refine aw_sldq ex116 dL_law_754 ?_
                                            refine aw_aload_n dL_law_755 0 rfl rfl ?_
                                            refine aw_iload_n dL_law_756 3 rfl rfl ?_
                                            refine aw_iconst (v := (4 : Int32)) dL_law_757 (by decide) ?_
                                            refine aw_iadd dL_law_758 ?_
                                            refine aw_sldq ex117 dL_law_759 ?_
                                            obtain ⟨y119, ey119, hF⟩ := qbind hF
                                            refine aw_callVi (As := [.int x114, .int x115, .int x116, .int x117]) (sX8_departure hW h2 ey119) cl_L_100 rfl (qroomW (by decide) (by decide) hcap) rfl h2 (Nat.le_of_ble_eq_true rfl) dL_law_760 rfl ?_
                                            refine aw_icmp_eq (tgt := 768) dL_law_763 (by decide) (fun c120 => ?_) (fun c120 => ?_)
                                            · rw [if_pos c120] at hF
                                              refine aw_iinc (q := 3) (v := (v3 + 6)) (lv' := [(3, .int (v3 + 6)), (0, .ref b), (1, .ref (G.1 + b1)), (2, .ref (G.1 + b2))]) dL_law_768 rfl rfl (Nat.le_of_ble_eq_true rfl) rfl ?_
                                              refine aw_goto (tgt := 18) dL_law_771 (by decide) ?_
                                              cases hF
                                              exact aw_sub [1, 2, 3, 0] rfl (hc ((v3 + 6), y119.2, y118.2.2) rfl hW h1 h2)
                                            · rw [if_neg c120] at hF
                                              refine aw_iconst (v := (0 : Int32)) dL_law_766 (by decide) ?_
                                              cases hF
                                          · rw [if_neg c113] at hF
                                            refine aw_tableOut (tgt := 768) dL_law_33 (qtout _ 19 (fun j hj => by
                                              match j, hj with
                                              | 0, _ => exact c3
                                              | 1, _ => exact c8
                                              | 2, _ => exact c16
                                              | 3, _ => exact c22
                                              | 4, _ => exact c27
                                              | 5, _ => exact c33
                                              | 6, _ => exact c39
                                              | 7, _ => exact c44
                                              | 8, _ => exact c49
                                              | 9, _ => exact c55
                                              | 10, _ => exact c60
                                              | 11, _ => exact c65
                                              | 12, _ => exact c70
                                              | 13, _ => exact c77
                                              | 14, _ => exact c82
                                              | 15, _ => exact c88
                                              | 16, _ => exact c92
                                              | 17, _ => exact c97
                                              | 18, _ => exact c106
                                              | 19, _ => exact c113
                                              | j + 20, h => exact absurd h (by omega))) (by decide) ?_
                                            refine aw_iinc (q := 3) (v := (v3 + 6)) (lv' := [(3, .int (v3 + 6)), (0, .ref b), (1, .ref (G.1 + b1)), (2, .ref (G.1 + b2))]) dL_law_768 rfl rfl (Nat.le_of_ble_eq_true rfl) rfl ?_
                                            refine aw_goto (tgt := 18) dL_law_771 (by decide) ?_
                                            cases hF
                                            exact aw_sub [1, 2, 3, 0] rfl (hc ((v3 + 6), I, R) rfl hW h1 h2)
