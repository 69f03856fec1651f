/-! TABLE ON BOTH SIDES -/
theorem canBe_t {N X n : Nat} {NS : Nat → Nat} {ST CT GT : Nat → Nat → Nat} {R : qR} {I : qI} (hN : 300000 ≤ N) (hL : LR R) (hK : BK I NS ST CT GT) (h4 : I 0 4 = nI n) (hn : n ≤ 10) (hX : X < 2 ^ n) (hX0 : 0 < X) (h6 : pc X n ≤ 6) (h2 : ∀ t, t < n → X.testBit t = true → 2 ≤ NS t) : fX7_canBeTable N R I 0 (nI X) = some (nI 1) := by
  have hX10 : X < 1024 := Nat.lt_of_lt_of_le hX (Nat.pow_le_pow_right (n := 2) (by omega) hn)
  have hp : 2 ^ n ≤ 1024 := Nat.pow_le_pow_right (n := 2) (by omega) hn
  have hbc : bc 13 X = pc X n := by
    rw [pc_bc]
    have := pc_top hX (13 - n)
    rw [show n + (13 - n) = 13 by omega] at this
    exact this
  have hb := bitc (R := R) (I := I) (show X < 8192 by omega)
  rw [hbc] at hb
  have el : qloop (fun s => cX7_canBeTable_27 N R I 0 (nI X) s) N (nI 0) = some (.inl ()) := by
    refine qfor (fun t => nI t) _ n (by omega) (fun t ht => ?_) ?_
    · have e1 := (hK t (by omega)).2.2.1
      have e7 := (hK t (by omega)).1
      have ht10 : t < 10 := by omega
      cases hbt : X.testBit t with
      | true =>
        have := h2 t ht hbt
        have hnb : ¬ X.testBit t = false := by rw [hbt]; simp
        simp (disch := first | assumption | omega) only [obs, qle, ↓lm1, l0, qn_add, pk_mul, n_le, n_lt, n_eq, n_sM, n_Ms, n_Mlt, n_Mle, n_ltM, n_leM, ↓reduceIte, eq_self, if_pos, if_neg, qx, p0_0, p0_1, p0_2, p0_3, p2_0, p4_0, p4_1, p4_2, p4_3, p4_4, p4_5, p8_1, p8_5, p8_6, p8_7, p14_0, p14_4, p14_5, p18_1, p18_2, p51_4, p51_5, p51_8, p51_9, p51_10, p51_11, p51_12, p51_14, r3, w3, r6, w6, r7, w7, r9, w9, r10, w10, r11, w11, r12, w12, r15, w15, r16, w16, r17, w17, r19, w19, r20, w20, r53, w53, r54, w54, r55, w55, r56, w56, r57, w57, r58, w58, r59, w59, r60, w60, a1, a5, pt2, rt2, wt2, pt3, rt3, wt3, pt4, rt4, wt4, pt5, rt5, wt5, pm2, rm2, wm2, pm3, rm3, wm3, pm4, rm4, wm4, pm5, rm5, wm5, l1, l2, l3, l5, l6, l7, l8, l10, l11, l12, l31, l36, l63, l100, l1000, l1440, l1000000, l16777216, cX7_canBeTable_27, h4, n_bit, e1]
      | false => simp (disch := first | assumption | omega) only [obs, qle, ↓lm1, l0, qn_add, pk_mul, n_le, n_lt, n_eq, n_sM, n_Ms, n_Mlt, n_Mle, n_ltM, n_leM, ↓reduceIte, eq_self, if_pos, if_neg, qx, p0_0, p0_1, p0_2, p0_3, p2_0, p4_0, p4_1, p4_2, p4_3, p4_4, p4_5, p8_1, p8_5, p8_6, p8_7, p14_0, p14_4, p14_5, p18_1, p18_2, p51_4, p51_5, p51_8, p51_9, p51_10, p51_11, p51_12, p51_14, r3, w3, r6, w6, r7, w7, r9, w9, r10, w10, r11, w11, r12, w12, r15, w15, r16, w16, r17, w17, r19, w19, r20, w20, r53, w53, r54, w54, r55, w55, r56, w56, r57, w57, r58, w58, r59, w59, r60, w60, a1, a5, pt2, rt2, wt2, pt3, rt3, wt3, pt4, rt4, wt4, pt5, rt5, wt5, pm2, rm2, wm2, pm3, rm3, wm3, pm4, rm4, wm4, pm5, rm5, wm5, l1, l2, l3, l5, l6, l7, l8, l10, l11, l12, l31, l36, l63, l100, l1000, l1440, l1000000, l16777216, cX7_canBeTable_27, h4, n_bit, hbt]
    · simp (disch := first | assumption | omega) only [obs, qle, ↓lm1, l0, qn_add, pk_mul, n_le, n_lt, n_eq, n_sM, n_Ms, n_Mlt, n_Mle, n_ltM, n_leM, ↓reduceIte, eq_self, if_pos, if_neg, qx, p0_0, p0_1, p0_2, p0_3, p2_0, p4_0, p4_1, p4_2, p4_3, p4_4, p4_5, p8_1, p8_5, p8_6, p8_7, p14_0, p14_4, p14_5, p18_1, p18_2, p51_4, p51_5, p51_8, p51_9, p51_10, p51_11, p51_12, p51_14, r3, w3, r6, w6, r7, w7, r9, w9, r10, w10, r11, w11, r12, w12, r15, w15, r16, w16, r17, w17, r19, w19, r20, w20, r53, w53, r54, w54, r55, w55, r56, w56, r57, w57, r58, w58, r59, w59, r60, w60, a1, a5, pt2, rt2, wt2, pt3, rt3, wt3, pt4, rt4, wt4, pt5, rt5, wt5, pm2, rm2, wm2, pm3, rm3, wm3, pm4, rm4, wm4, pm5, rm5, wm5, l1, l2, l3, l5, l6, l7, l8, l10, l11, l12, l31, l36, l63, l100, l1000, l1440, l1000000, l16777216, cX7_canBeTable_27, h4]
  unfold fX7_canBeTable
  simp (disch := first | assumption | omega) only [obs, qle, ↓lm1, l0, qn_add, pk_mul, n_le, n_lt, n_eq, n_sM, n_Ms, n_Mlt, n_Mle, n_ltM, n_leM, ↓reduceIte, eq_self, if_pos, if_neg, qx, p0_0, p0_1, p0_2, p0_3, p2_0, p4_0, p4_1, p4_2, p4_3, p4_4, p4_5, p8_1, p8_5, p8_6, p8_7, p14_0, p14_4, p14_5, p18_1, p18_2, p51_4, p51_5, p51_8, p51_9, p51_10, p51_11, p51_12, p51_14, r3, w3, r6, w6, r7, w7, r9, w9, r10, w10, r11, w11, r12, w12, r15, w15, r16, w16, r17, w17, r19, w19, r20, w20, r53, w53, r54, w54, r55, w55, r56, w56, r57, w57, r58, w58, r59, w59, r60, w60, a1, a5, pt2, rt2, wt2, pt3, rt3, wt3, pt4, rt4, wt4, pt5, rt5, wt5, pm2, rm2, wm2, pm3, rm3, wm3, pm4, rm4, wm4, pm5, rm5, wm5, l1, l2, l3, l5, l6, l7, l8, l10, l11, l12, l31, l36, l63, l100, l1000, l1440, l1000000, l16777216, h4, n_1s, hb, el]
theorem canBe_f {N X n : Nat} {NS : Nat → Nat} {ST CT GT : Nat → Nat → Nat} {R : qR} {I : qI} (hN : 300000 ≤ N) (hL : LR R) (hK : BK I NS ST CT GT) (h4 : I 0 4 = nI n) (hn : n ≤ 10) (hX : X < 2 ^ n) (hX0 : 0 < X) (h6 : pc X n ≤ 6) (h2 : ¬ ∀ t, t < n → X.testBit t = true → 2 ≤ NS t) : fX7_canBeTable N R I 0 (nI X) = some (nI 0) := by
  have hX10 : X < 1024 := Nat.lt_of_lt_of_le hX (Nat.pow_le_pow_right (n := 2) (by omega) hn)
  have hp : 2 ^ n ≤ 1024 := Nat.pow_le_pow_right (n := 2) (by omega) hn
  have hbc : bc 13 X = pc X n := by
    rw [pc_bc]
    have := pc_top hX (13 - n)
    rw [show n + (13 - n) = 13 by omega] at this
    exact this
  have hb := bitc (R := R) (I := I) (show X < 8192 by omega)
  rw [hbc] at hb
  obtain ⟨m, ⟨hm1, hm2, hm3⟩, hlst⟩ := pk_least (fun t => t < n ∧ X.testBit t = true ∧ NS t < 2) (Classical.byContradiction (fun q => h2 (fun k hk hkl => Classical.byContradiction (fun q2 => q ⟨k, hk, hkl, by omega⟩))))
  have el : qloop (fun s => cX7_canBeTable_27 N R I 0 (nI X) s) N (nI 0) = some (.inr (nI 0)) := by
    refine qfor (fun t => nI t) _ m (by omega) (fun t ht => ?_) ?_
    · have e1 := (hK t (by omega)).2.2.1
      have e7 := (hK t (by omega)).1
      have ht10 : t < 10 := by omega
      cases hbt : X.testBit t with
      | true =>
        have : 2 ≤ NS t := Classical.byContradiction (fun q => hlst t ht ⟨by omega, hbt, by omega⟩)
        have hnb : ¬ X.testBit t = false := by rw [hbt]; simp
        simp (disch := first | assumption | omega) only [obs, qle, ↓lm1, l0, qn_add, pk_mul, n_le, n_lt, n_eq, n_sM, n_Ms, n_Mlt, n_Mle, n_ltM, n_leM, ↓reduceIte, eq_self, if_pos, if_neg, qx, p0_0, p0_1, p0_2, p0_3, p2_0, p4_0, p4_1, p4_2, p4_3, p4_4, p4_5, p8_1, p8_5, p8_6, p8_7, p14_0, p14_4, p14_5, p18_1, p18_2, p51_4, p51_5, p51_8, p51_9, p51_10, p51_11, p51_12, p51_14, r3, w3, r6, w6, r7, w7, r9, w9, r10, w10, r11, w11, r12, w12, r15, w15, r16, w16, r17, w17, r19, w19, r20, w20, r53, w53, r54, w54, r55, w55, r56, w56, r57, w57, r58, w58, r59, w59, r60, w60, a1, a5, pt2, rt2, wt2, pt3, rt3, wt3, pt4, rt4, wt4, pt5, rt5, wt5, pm2, rm2, wm2, pm3, rm3, wm3, pm4, rm4, wm4, pm5, rm5, wm5, l1, l2, l3, l5, l6, l7, l8, l10, l11, l12, l31, l36, l63, l100, l1000, l1440, l1000000, l16777216, cX7_canBeTable_27, h4, n_bit, e1]
      | false => simp (disch := first | assumption | omega) only [obs, qle, ↓lm1, l0, qn_add, pk_mul, n_le, n_lt, n_eq, n_sM, n_Ms, n_Mlt, n_Mle, n_ltM, n_leM, ↓reduceIte, eq_self, if_pos, if_neg, qx, p0_0, p0_1, p0_2, p0_3, p2_0, p4_0, p4_1, p4_2, p4_3, p4_4, p4_5, p8_1, p8_5, p8_6, p8_7, p14_0, p14_4, p14_5, p18_1, p18_2, p51_4, p51_5, p51_8, p51_9, p51_10, p51_11, p51_12, p51_14, r3, w3, r6, w6, r7, w7, r9, w9, r10, w10, r11, w11, r12, w12, r15, w15, r16, w16, r17, w17, r19, w19, r20, w20, r53, w53, r54, w54, r55, w55, r56, w56, r57, w57, r58, w58, r59, w59, r60, w60, a1, a5, pt2, rt2, wt2, pt3, rt3, wt3, pt4, rt4, wt4, pt5, rt5, wt5, pm2, rm2, wm2, pm3, rm3, wm3, pm4, rm4, wm4, pm5, rm5, wm5, l1, l2, l3, l5, l6, l7, l8, l10, l11, l12, l31, l36, l63, l100, l1000, l1440, l1000000, l16777216, cX7_canBeTable_27, h4, n_bit, hbt]
    · have e1 := (hK m (by omega)).2.2.1
      have ht10 : m < 10 := by omega
      have hnb : ¬ X.testBit m = false := by rw [hm2]; simp
      simp (disch := first | assumption | omega) only [obs, qle, ↓lm1, l0, qn_add, pk_mul, n_le, n_lt, n_eq, n_sM, n_Ms, n_Mlt, n_Mle, n_ltM, n_leM, ↓reduceIte, eq_self, if_pos, if_neg, qx, p0_0, p0_1, p0_2, p0_3, p2_0, p4_0, p4_1, p4_2, p4_3, p4_4, p4_5, p8_1, p8_5, p8_6, p8_7, p14_0, p14_4, p14_5, p18_1, p18_2, p51_4, p51_5, p51_8, p51_9, p51_10, p51_11, p51_12, p51_14, r3, w3, r6, w6, r7, w7, r9, w9, r10, w10, r11, w11, r12, w12, r15, w15, r16, w16, r17, w17, r19, w19, r20, w20, r53, w53, r54, w54, r55, w55, r56, w56, r57, w57, r58, w58, r59, w59, r60, w60, a1, a5, pt2, rt2, wt2, pt3, rt3, wt3, pt4, rt4, wt4, pt5, rt5, wt5, pm2, rm2, wm2, pm3, rm3, wm3, pm4, rm4, wm4, pm5, rm5, wm5, l1, l2, l3, l5, l6, l7, l8, l10, l11, l12, l31, l36, l63, l100, l1000, l1440, l1000000, l16777216, cX7_canBeTable_27, h4, n_bit, e1]
  unfold fX7_canBeTable
  simp (disch := first | assumption | omega) only [obs, qle, ↓lm1, l0, qn_add, pk_mul, n_le, n_lt, n_eq, n_sM, n_Ms, n_Mlt, n_Mle, n_ltM, n_leM, ↓reduceIte, eq_self, if_pos, if_neg, qx, p0_0, p0_1, p0_2, p0_3, p2_0, p4_0, p4_1, p4_2, p4_3, p4_4, p4_5, p8_1, p8_5, p8_6, p8_7, p14_0, p14_4, p14_5, p18_1, p18_2, p51_4, p51_5, p51_8, p51_9, p51_10, p51_11, p51_12, p51_14, r3, w3, r6, w6, r7, w7, r9, w9, r10, w10, r11, w11, r12, w12, r15, w15, r16, w16, r17, w17, r19, w19, r20, w20, r53, w53, r54, w54, r55, w55, r56, w56, r57, w57, r58, w58, r59, w59, r60, w60, a1, a5, pt2, rt2, wt2, pt3, rt3, wt3, pt4, rt4, wt4, pt5, rt5, wt5, pm2, rm2, wm2, pm3, rm3, wm3, pm4, rm4, wm4, pm5, rm5, wm5, l1, l2, l3, l5, l6, l7, l8, l10, l11, l12, l31, l36, l63, l100, l1000, l1440, l1000000, l16777216, h4, n_1s, hb, el]
theorem told0 {I : qI} (j a : Nat) (h : ¬ (a = 111 ∧ j = 0)) : qup I 111 0 (nI 0) a j = I a j := qup_off (by omega)
theorem TSame.told {I : qI} : TSame I (qup I 111 0 (nI 0)) := TSame.up (by omega)
/-- a refused table on the reference's side -/
theorem ref_f {N X n : Nat} {NS : Nat → Nat} {ST CT GT : Nat → Nat → Nat} {R : qR} {I : qI} (hN : 300000 ≤ N) (hL : LR R) (hK : BK I NS ST CT GT) (h1 : I 111 1 = nI n) (hn : n ≤ 10) (hX : X < 2 ^ n) (hX0 : 0 < X) (h6 : pc X n ≤ 6) (h2 : ¬ ∀ t, t < n → X.testBit t = true → 2 ≤ NS t) : fX8_table N R I 111 (nI X) = some (nM, qup I 111 0 (nI 0)) := by
  have hX10 : X < 1024 := Nat.lt_of_lt_of_le hX (Nat.pow_le_pow_right (n := 2) (by omega) hn)
  have hp : 2 ^ n ≤ 1024 := Nat.pow_le_pow_right (n := 2) (by omega) hn
  have hbc : bc 13 X = pc X n := by
    rw [pc_bc]
    have := pc_top hX (13 - n)
    rw [show n + (13 - n) = 13 by omega] at this
    exact this
  have hb := ones_eq (R := R) (I := qup I 111 0 (nI 0)) (N := N) (a := 111) (by omega) (show X < 8192 by omega)
  rw [hbc] at hb
  have e11 : qup I 111 0 (nI 0) 111 1 = nI n := by rw [told0 _ _ (by omega)]; exact h1
  obtain ⟨m, ⟨hm1, hm2, hm3⟩, hlst⟩ := pk_least (fun t => t < n ∧ X.testBit t = true ∧ NS t < 2) (Classical.byContradiction (fun q => h2 (fun k hk hkl => Classical.byContradiction (fun q2 => q ⟨k, hk, hkl, by omega⟩))))
  have el : qloop (fun s => cX8_table_34 N R (qup I 111 0 (nI 0)) 111 (nI X) s) N (nI 0) = some (.inr (nM, qup I 111 0 (nI 0))) := by
    refine qfor (fun t => nI t) _ m (by omega) (fun t ht => ?_) ?_
    · have e1 : qup I 111 0 (nI 0) 113 t = nI (NS t) := by rw [told0 _ _ (by omega)]; exact (hK t (by omega)).2.1
      have e7 := (hK t (by omega)).1
      cases hbt : X.testBit t with
      | true =>
        have : 2 ≤ NS t := Classical.byContradiction (fun q => hlst t ht ⟨by omega, hbt, by omega⟩)
        simp (disch := first | assumption | omega) only [obs, qle, ↓lm1, l0, qn_add, pk_mul, n_le, n_lt, n_eq, n_sM, n_Ms, n_Mlt, n_Mle, n_ltM, n_leM, ↓reduceIte, eq_self, if_pos, if_neg, qx, p111_3, p111_4, p111_5, p111_6, p111_7, p111_8, p111_11, p111_12, p111_13, p111_14, p111_15, p111_16, p111_17, p111_18, p111_19, p111_21, p111_22, p111_23, p111_24, p111_27, p111_28, p111_29, p111_30, p111_31, p111_32, p111_34, r112, w112, r113, w113, r114, w114, r115, w115, r116, w116, r117, w117, r118, w118, r119, w119, r120, w120, r121, w121, r122, w122, r123, w123, r124, w124, r125, w125, r126, w126, r127, w127, r128, w128, r129, w129, r130, w130, r131, w131, r132, w132, r133, w133, r134, w134, r135, w135, r136, w136, r137, w137, l1, l2, l3, l5, l6, l7, l8, l10, l11, l12, l31, l36, l63, l100, l1000, l1440, l1000000, l16777216, cX8_table_34, e11, n_bit1, e1, hbt]
      | false =>
        have hnb : ¬ X.testBit t = true := by rw [hbt]; simp
        simp (disch := first | assumption | omega) only [obs, qle, ↓lm1, l0, qn_add, pk_mul, n_le, n_lt, n_eq, n_sM, n_Ms, n_Mlt, n_Mle, n_ltM, n_leM, ↓reduceIte, eq_self, if_pos, if_neg, qx, p111_3, p111_4, p111_5, p111_6, p111_7, p111_8, p111_11, p111_12, p111_13, p111_14, p111_15, p111_16, p111_17, p111_18, p111_19, p111_21, p111_22, p111_23, p111_24, p111_27, p111_28, p111_29, p111_30, p111_31, p111_32, p111_34, r112, w112, r113, w113, r114, w114, r115, w115, r116, w116, r117, w117, r118, w118, r119, w119, r120, w120, r121, w121, r122, w122, r123, w123, r124, w124, r125, w125, r126, w126, r127, w127, r128, w128, r129, w129, r130, w130, r131, w131, r132, w132, r133, w133, r134, w134, r135, w135, r136, w136, r137, w137, l1, l2, l3, l5, l6, l7, l8, l10, l11, l12, l31, l36, l63, l100, l1000, l1440, l1000000, l16777216, cX8_table_34, e11, n_bit1]
    · have e1 : qup I 111 0 (nI 0) 113 m = nI (NS m) := by rw [told0 _ _ (by omega)]; exact (hK m (by omega)).2.1
      simp (disch := first | assumption | omega) only [obs, qle, ↓lm1, l0, qn_add, pk_mul, n_le, n_lt, n_eq, n_sM, n_Ms, n_Mlt, n_Mle, n_ltM, n_leM, ↓reduceIte, eq_self, if_pos, if_neg, qx, p111_3, p111_4, p111_5, p111_6, p111_7, p111_8, p111_11, p111_12, p111_13, p111_14, p111_15, p111_16, p111_17, p111_18, p111_19, p111_21, p111_22, p111_23, p111_24, p111_27, p111_28, p111_29, p111_30, p111_31, p111_32, p111_34, r112, w112, r113, w113, r114, w114, r115, w115, r116, w116, r117, w117, r118, w118, r119, w119, r120, w120, r121, w121, r122, w122, r123, w123, r124, w124, r125, w125, r126, w126, r127, w127, r128, w128, r129, w129, r130, w130, r131, w131, r132, w132, r133, w133, r134, w134, r135, w135, r136, w136, r137, w137, l1, l2, l3, l5, l6, l7, l8, l10, l11, l12, l31, l36, l63, l100, l1000, l1440, l1000000, l16777216, cX8_table_34, e11, n_bit1, e1]
  unfold fX8_table
  simp (disch := first | assumption | omega) only [obs, qle, ↓lm1, l0, qn_add, pk_mul, n_le, n_lt, n_eq, n_sM, n_Ms, n_Mlt, n_Mle, n_ltM, n_leM, ↓reduceIte, eq_self, if_pos, if_neg, qx, p111_3, p111_4, p111_5, p111_6, p111_7, p111_8, p111_11, p111_12, p111_13, p111_14, p111_15, p111_16, p111_17, p111_18, p111_19, p111_21, p111_22, p111_23, p111_24, p111_27, p111_28, p111_29, p111_30, p111_31, p111_32, p111_34, r112, w112, r113, w113, r114, w114, r115, w115, r116, w116, r117, w117, r118, w118, r119, w119, r120, w120, r121, w121, r122, w122, r123, w123, r124, w124, r125, w125, r126, w126, r127, w127, r128, w128, r129, w129, r130, w130, r131, w131, r132, w132, r133, w133, r134, w134, r135, w135, r136, w136, r137, w137, l1, l2, l3, l5, l6, l7, l8, l10, l11, l12, l31, l36, l63, l100, l1000, l1440, l1000000, l16777216, e11, n_1s, hb, el]
/-- the reference comes to its own making -/
theorem ref_t {N X n : Nat} {NS : Nat → Nat} {ST CT GT : Nat → Nat → Nat} {R : qR} {I : qI} (hN : 300000 ≤ N) (hL : LR R) (hK : BK I NS ST CT GT) (h1 : I 111 1 = nI n) (hn : n ≤ 10) (hX : X < 2 ^ n) (hX0 : 0 < X) (h6 : pc X n ≤ 6) (h2 : ∀ t, t < n → X.testBit t = true → 2 ≤ NS t) : fX8_table N R I 111 (nI X) = ((qloop (fun s => cX8_table_76 N R 111 (nI X) s.1 s.2) N (nI 0, qup (qup I 111 0 (nI 0)) 111 10 (nI 0))).bind fun o40 => (fX8_findRows N R o40 111).bind fun y41 => (fX8_findColumns N R y41 111).bind fun y42 => (fX8_findLanes N R y42 111).bind fun y43 => some ((y43 111 9), y43)) := by
  have hX10 : X < 1024 := Nat.lt_of_lt_of_le hX (Nat.pow_le_pow_right (n := 2) (by omega) hn)
  have hp : 2 ^ n ≤ 1024 := Nat.pow_le_pow_right (n := 2) (by omega) hn
  have hbc : bc 13 X = pc X n := by
    rw [pc_bc]
    have := pc_top hX (13 - n)
    rw [show n + (13 - n) = 13 by omega] at this
    exact this
  have hb := ones_eq (R := R) (I := qup I 111 0 (nI 0)) (N := N) (a := 111) (by omega) (show X < 8192 by omega)
  rw [hbc] at hb
  have e11 : qup I 111 0 (nI 0) 111 1 = nI n := by rw [told0 _ _ (by omega)]; exact h1
  have el : qloop (fun s => cX8_table_34 N R (qup I 111 0 (nI 0)) 111 (nI X) s) N (nI 0) = some (.inl ()) := by
    refine qfor (fun t => nI t) _ n (by omega) (fun t ht => ?_) ?_
    · have e1 : qup I 111 0 (nI 0) 113 t = nI (NS t) := by rw [told0 _ _ (by omega)]; exact (hK t (by omega)).2.1
      have e7 := (hK t (by omega)).1
      cases hbt : X.testBit t with
      | true =>
        have := h2 t ht hbt
        simp (disch := first | assumption | omega) only [obs, qle, ↓lm1, l0, qn_add, pk_mul, n_le, n_lt, n_eq, n_sM, n_Ms, n_Mlt, n_Mle, n_ltM, n_leM, ↓reduceIte, eq_self, if_pos, if_neg, qx, p111_3, p111_4, p111_5, p111_6, p111_7, p111_8, p111_11, p111_12, p111_13, p111_14, p111_15, p111_16, p111_17, p111_18, p111_19, p111_21, p111_22, p111_23, p111_24, p111_27, p111_28, p111_29, p111_30, p111_31, p111_32, p111_34, r112, w112, r113, w113, r114, w114, r115, w115, r116, w116, r117, w117, r118, w118, r119, w119, r120, w120, r121, w121, r122, w122, r123, w123, r124, w124, r125, w125, r126, w126, r127, w127, r128, w128, r129, w129, r130, w130, r131, w131, r132, w132, r133, w133, r134, w134, r135, w135, r136, w136, r137, w137, l1, l2, l3, l5, l6, l7, l8, l10, l11, l12, l31, l36, l63, l100, l1000, l1440, l1000000, l16777216, cX8_table_34, e11, n_bit1, e1, hbt]
      | false =>
        have hnb : ¬ X.testBit t = true := by rw [hbt]; simp
        simp (disch := first | assumption | omega) only [obs, qle, ↓lm1, l0, qn_add, pk_mul, n_le, n_lt, n_eq, n_sM, n_Ms, n_Mlt, n_Mle, n_ltM, n_leM, ↓reduceIte, eq_self, if_pos, if_neg, qx, p111_3, p111_4, p111_5, p111_6, p111_7, p111_8, p111_11, p111_12, p111_13, p111_14, p111_15, p111_16, p111_17, p111_18, p111_19, p111_21, p111_22, p111_23, p111_24, p111_27, p111_28, p111_29, p111_30, p111_31, p111_32, p111_34, r112, w112, r113, w113, r114, w114, r115, w115, r116, w116, r117, w117, r118, w118, r119, w119, r120, w120, r121, w121, r122, w122, r123, w123, r124, w124, r125, w125, r126, w126, r127, w127, r128, w128, r129, w129, r130, w130, r131, w131, r132, w132, r133, w133, r134, w134, r135, w135, r136, w136, r137, w137, l1, l2, l3, l5, l6, l7, l8, l10, l11, l12, l31, l36, l63, l100, l1000, l1440, l1000000, l16777216, cX8_table_34, e11, n_bit1]
    · simp (disch := first | assumption | omega) only [obs, qle, ↓lm1, l0, qn_add, pk_mul, n_le, n_lt, n_eq, n_sM, n_Ms, n_Mlt, n_Mle, n_ltM, n_leM, ↓reduceIte, eq_self, if_pos, if_neg, qx, p111_3, p111_4, p111_5, p111_6, p111_7, p111_8, p111_11, p111_12, p111_13, p111_14, p111_15, p111_16, p111_17, p111_18, p111_19, p111_21, p111_22, p111_23, p111_24, p111_27, p111_28, p111_29, p111_30, p111_31, p111_32, p111_34, r112, w112, r113, w113, r114, w114, r115, w115, r116, w116, r117, w117, r118, w118, r119, w119, r120, w120, r121, w121, r122, w122, r123, w123, r124, w124, r125, w125, r126, w126, r127, w127, r128, w128, r129, w129, r130, w130, r131, w131, r132, w132, r133, w133, r134, w134, r135, w135, r136, w136, r137, w137, l1, l2, l3, l5, l6, l7, l8, l10, l11, l12, l31, l36, l63, l100, l1000, l1440, l1000000, l16777216, cX8_table_34, e11]
  unfold fX8_table
  simp (disch := first | assumption | omega) only [obs, qle, ↓lm1, l0, qn_add, pk_mul, n_le, n_lt, n_eq, n_sM, n_Ms, n_Mlt, n_Mle, n_ltM, n_leM, ↓reduceIte, eq_self, if_pos, if_neg, qx, p111_3, p111_4, p111_5, p111_6, p111_7, p111_8, p111_11, p111_12, p111_13, p111_14, p111_15, p111_16, p111_17, p111_18, p111_19, p111_21, p111_22, p111_23, p111_24, p111_27, p111_28, p111_29, p111_30, p111_31, p111_32, p111_34, r112, w112, r113, w113, r114, w114, r115, w115, r116, w116, r117, w117, r118, w118, r119, w119, r120, w120, r121, w121, r122, w122, r123, w123, r124, w124, r125, w125, r126, w126, r127, w127, r128, w128, r129, w129, r130, w130, r131, w131, r132, w132, r133, w133, r134, w134, r135, w135, r136, w136, r137, w137, l1, l2, l3, l5, l6, l7, l8, l10, l11, l12, l31, l36, l63, l100, l1000, l1440, l1000000, l16777216, e11, n_1s, hb, el]
theorem sim_table {N S : Nat} {R : qR} {I : qI} (hN : 300000 ≤ N) (hL : LR R) (hB : BookInv I) (hS : SignInv I) (hV : TV R S I) (hD : TD I) (hSb : S < 16777214) (x : Int32) : ∃ r I1 R1 I2 S2, fX7_table N R I 0 x = some (r, I1, R1) ∧ fX8_table N R1 I1 111 x = some (r, I2) ∧ LR R1 ∧ BookInv I2 ∧ SignInv I2 ∧ S2 ≤ S + 1 ∧ TV R1 S2 I2 ∧ TV R1 S2 I1 ∧ TD I2 ∧ R1.1 51 0 = R.1 51 0 := by
  have hK := bk_of hB
  obtain ⟨b1, b2, b3, b4, b5, b6, b7, b8, b9⟩ := id hB
  obtain ⟨n, hn⟩ : ∃ n, (I 111 1).toInt.toNat = n := ⟨_, rfl⟩
  have h1 : I 111 1 = nI n := by rw [← hn]; exact nI_tn b3
  have h4 : I 0 4 = nI n := by rw [b1]; exact h1
  have hn10 : n ≤ 10 := by omega
  have hp : 2 ^ n ≤ 1024 := Nat.pow_le_pow_right (n := 2) (by omega) hn10
  have hp0 : 0 < 2 ^ n := Nat.pow_pos (by omega)
  have refuse : fX7_canBeTable N R I 0 x = some (nI 0) → fX8_table N R I 111 x = some (nM, qup I 111 0 (nI 0)) → ∃ r I1 R1 I2 S2, fX7_table N R I 0 x = some (r, I1, R1) ∧ fX8_table N R1 I1 111 x = some (r, I2) ∧ LR R1 ∧ BookInv I2 ∧ SignInv I2 ∧ S2 ≤ S + 1 ∧ TV R1 S2 I2 ∧ TV R1 S2 I1 ∧ TD I2 ∧ R1.1 51 0 = R.1 51 0 := by
    intro q1 q2
    obtain ⟨s1, s2, s3⟩ := same_told hB hS (nI 0)
    refine ⟨nM, I, R, qup I 111 0 (nI 0), S, ?_, q2, hL, s1, s2, by omega, hV.same s3, hV, hD.same s3, rfl⟩
    unfold fX7_table
    simp (disch := first | assumption | omega) only [obs, qle, ↓lm1, l0, qn_add, pk_mul, n_le, n_lt, n_eq, n_sM, n_Ms, n_Mlt, n_Mle, n_ltM, n_leM, ↓reduceIte, eq_self, if_pos, if_neg, qx, p0_0, p0_1, p0_2, p0_3, p2_0, p4_0, p4_1, p4_2, p4_3, p4_4, p4_5, p8_1, p8_5, p8_6, p8_7, p14_0, p14_4, p14_5, p18_1, p18_2, p51_4, p51_5, p51_8, p51_9, p51_10, p51_11, p51_12, p51_14, r3, w3, r6, w6, r7, w7, r9, w9, r10, w10, r11, w11, r12, w12, r15, w15, r16, w16, r17, w17, r19, w19, r20, w20, r53, w53, r54, w54, r55, w55, r56, w56, r57, w57, r58, w58, r59, w59, r60, w60, a1, a5, pt2, rt2, wt2, pt3, rt3, wt3, pt4, rt4, wt4, pt5, rt5, wt5, pm2, rm2, wm2, pm3, rm3, wm3, pm4, rm4, wm4, pm5, rm5, wm5, l1, l2, l3, l5, l6, l7, l8, l10, l11, l12, l31, l36, l63, l100, l1000, l1440, l1000000, l16777216, q1]
  by_cases hx : x.toInt ≤ 0
  · refine refuse ?_ ?_
    · unfold fX7_canBeTable
      rw [if_pos (show x ≤ 0 by rw [ile, i0]; omega), l0]
    · unfold fX8_table
      rw [l0, lm1]
      simp only [qle]
      rw [if_pos (show x < 1 by rw [ilt, i1]; omega)]
  · obtain ⟨X, hX⟩ : ∃ X, x.toInt.toNat = X := ⟨_, rfl⟩
    have hxX : x = nI X := by rw [← hX]; exact nI_tn (by omega)
    have hXb : X < 2147483648 := by have := (irng x).2; omega
    have hX0 : 0 < X := by omega
    subst hxX
    have e11 : qup I 111 0 (nI 0) 111 1 = nI n := by rw [told0 _ _ (by omega)]; exact h1
    by_cases hlt : X < 2 ^ n
    · have hbc : bc 13 X = pc X n := by
        rw [pc_bc]
        have := pc_top hlt (13 - n)
        rw [show n + (13 - n) = 13 by omega] at this
        exact this
      have hb := bitc (R := R) (I := I) (show X < 8192 by omega)
      rw [hbc] at hb
      have hb8 := ones_eq (R := R) (I := qup I 111 0 (nI 0)) (N := N) (a := 111) (by omega) (show X < 8192 by omega)
      rw [hbc] at hb8
      have hpc13 : pc X n ≤ 13 := by rw [← hbc]; exact bc_le 13 X
      by_cases h6 : pc X n ≤ 6
      · by_cases h2 : ∀ t, t < n → X.testBit t = true → 2 ≤ (I 113 t).toInt.toNat
        · have hc0 : 0 < pc X n := by
            apply Classical.byContradiction
            intro q
            have : X = 0 := by
              apply Nat.eq_of_testBit_eq
              intro i
              rw [Nat.zero_testBit]
              refine Bool.eq_false_iff.mpr (fun hb => ?_)
              by_cases hi : i < n
              · have h3 := pc_mono (X := X) (n - (i + 1)) (i + 1)
                rw [show i + 1 + (n - (i + 1)) = n by omega, pc, if_pos hb] at h3
                omega
              · rw [Nat.testBit_lt_two_pow (Nat.lt_of_lt_of_le hlt (Nat.pow_le_pow_right (n := 2) (by decide) (show n ≤ i by omega)))] at hb
                cases hb
            omega
          obtain ⟨⟨J, R1⟩, ey, hy⟩ := make7_ok (N := N) hN hL hK hV hSb hn10 hlt hc0 h6 h2
          obtain ⟨hL1, hV1, r51, d, rr, V, o, hd, hpw, hCM, hCF, c46, c80, c9, c6, c7, cmo, hBR, hVP, hOP, c15, c141, c142, c180, c19, cfr⟩ := hy
          simp only at hL1 hV1 r51 hpw hCM hCF c46 c80 c9 c6 c7 cmo hBR c15 c141 c142 c180 c19 cfr
          generalize hc : pc X n = c at *
          have hKt : ∀ k, k < c → trk X n k < n ∧ 2 ≤ (I 113 (trk X n k)).toInt.toNat := fun k hk => by
            obtain ⟨t1, t2, t3⟩ := trk_ok (X := X) n k (by omega)
            exact ⟨t1, h2 _ t1 t2⟩
          have hKJ : BK J _ _ _ _ := hK.congr (fun a ha => cfr a (by omega))
          have h1J : J 111 1 = nI n := by rw [cfr 111 (by omega)]; exact h1
          have hw : wf c (fun k => (I 113 (trk X n k)).toInt.toNat) (fun k i => (I 114 (7 * trk X n k + i)).toInt.toNat) := ⟨h6, fun k hk => (hK _ (by have := (hKt k hk).1; omega)).1, fun k i hk hi => ((hK _ (by have := (hKt k hk).1; omega)).2.2.2.1 i hi).1.2.2⟩
          have hwm : wm c (fun k => (I 113 (trk X n k)).toInt.toNat) (fun k i => (I 115 (7 * trk X n k + i)).toInt.toNat) (fun k i => (I 116 (7 * trk X n k + i)).toInt.toNat) := fun k i hk hi => by
            obtain ⟨_, _, _, q1, q2, _⟩ := (hK _ (by have := (hKt k hk).1; omega)).2.2.2.1 i hi
            simp only at q1 q2
            show (I 115 (7 * trk X n k + i)).toInt.toNat < 1440 ∧ (I 116 (7 * trk X n k + i)).toInt.toNat < 1440
            omega
          have hd42 := isD_42 c _ _ hw (pl_0 c _) hd
          -- the reference
          have href := ref_t (N := N) hN hL1 hKJ h1J hn10 hlt hX0 (by omega) h2
          have fin : ok (fX8_table N R1 J 111 (nI X)) (fun y => y.1 = nI d ∧ BookInv y.2 ∧ SignInv y.2 ∧ TV R1 (S + 1) y.2 ∧ TD y.2) := by
            rw [href]
            generalize hQ : qup (qup J 111 0 (nI 0)) 111 10 (nI 0) = Q
            have rQ : ∀ a, a ≠ 111 → Q a = J a := fun a ha => by rw [← hQ, qup_ne _ _ _ ha, qup_ne _ _ _ ha]
            have rQ1 : ∀ j, j ≠ 0 → j ≠ 10 → Q 111 j = J 111 j := fun j h3 h4 => by rw [← hQ, qup_off (by omega), qup_off (by omega)]
            have rQ10 : Q 111 10 = nI 0 := by rw [← hQ]; exact qup_on
            refine ok_bind (ok_mono (take8_ok (N := N) (S := fun t => (I 113 t).toInt.toNat) hN hL1 hn10 hlt (by omega) (by rw [rQ1 1 (by omega) (by omega)]; exact h1J) (fun t ht => by rw [rQ 113 (by omega)]; exact ⟨(hKJ t (by omega)).2.1, (hKJ t (by omega)).1⟩) rQ10) (fun K1 hK1 => ?_))
            obtain ⟨u1, u2, u3, u4⟩ := hK1
            rw [hc] at u1 u2
            have hRT1 : RT c (fun k => (I 113 (trk X n k)).toInt.toNat) (fun k i => (I 114 (7 * trk X n k + i)).toInt.toNat) K1 := by
              refine ⟨u1, h6, fun k hk => ?_, fun k i hk hi => ?_⟩
              · have z := hKJ (trk X n k) (by have := (hKt k hk).1; omega)
                refine ⟨?_, z.1⟩
                rw [(u2 k hk).2.1, rQ 113 (by omega)]
                exact z.2.1
              · have z := hKJ (trk X n k) (by have := (hKt k hk).1; omega)
                have z7 := z.1
                refine ⟨?_, (z.2.2.2.1 i hi).1.2.2⟩
                rw [((u2 k hk).2.2 i (by rw [rQ 113 (by omega), z.2.1, tI_nI (by omega)]; exact Int.ofNat_lt.mpr hi)).1, rQ 114 (by omega)]
                exact (z.2.2.2.1 i hi).1.1
            have hRF1 : RF c (fun k => (I 113 (trk X n k)).toInt.toNat) (fun k i => (I 115 (7 * trk X n k + i)).toInt.toNat) (fun k i => (I 116 (7 * trk X n k + i)).toInt.toNat) K1 := by
              intro k i hk hi
              have z := hKJ (trk X n k) (by have := (hKt k hk).1; omega)
              have z7 := z.1
              have q := (u2 k hk).2.2 i (by rw [rQ 113 (by omega), z.2.1, tI_nI (by omega)]; exact Int.ofNat_lt.mpr hi)
              rw [q.2.1, q.2.2, rQ 115 (by omega), rQ 116 (by omega)]
              exact ⟨(z.2.2.2.1 i hi).2.1.1, (z.2.2.2.1 i hi).2.2.1.1⟩
            refine ok_bind (ok_mono (findRows_ok (N := N) hN hL1 hRT1 hw hd hpw) (fun K2 hK2 => ?_))
            obtain ⟨v1, v2, v3, v4, v5⟩ := hK2
            have hRT2 : RT c (fun k => (I 113 (trk X n k)).toInt.toNat) (fun k i => (I 114 (7 * trk X n k + i)).toInt.toNat) K2 := hRT1.congr (v2 10 (by omega)) (v1 _ (by omega) (by omega) (by omega) (by omega)) (v1 _ (by omega) (by omega) (by omega) (by omega))
            have hRF2 : RF c (fun k => (I 113 (trk X n k)).toInt.toNat) (fun k i => (I 115 (7 * trk X n k + i)).toInt.toNat) (fun k i => (I 116 (7 * trk X n k + i)).toInt.toNat) K2 := by
              unfold RF
              rw [v1 122 (by omega) (by omega) (by omega) (by omega), v1 123 (by omega) (by omega) (by omega) (by omega)]
              exact hRF1
            refine ok_bind (ok_mono (findColumns_ok (N := N) hN hL1 hRT2 hRF2 hwm (by omega)) (fun K3 hK3 => ?_))
            obtain ⟨⟨xo, w1, w2⟩, w3⟩ := hK3
            obtain ⟨om1, om2⟩ := order_meet h6 hVP hOP w1
            have h124 : ∀ m j, m < c → j < (I 113 (trk X n m)).toInt.toNat → K3 124 (7 * m + j) = nI (rr m j) ∧ rr m j < d := fun m j hm hj => by
              obtain ⟨q1, q2, q3, q4⟩ := c7 m j hm hj
              have := v5 (rr m j) q2 m hm q4
              rw [q3] at this
              rw [w3 124 (by omega) (by omega)]
              exact ⟨this, q2⟩
            have hRW : RW c d (fun k => (I 113 (trk X n k)).toInt.toNat) (fun m => rr m 0) (fun m => rr m ((I 113 (trk X n m)).toInt.toNat - 1)) K3 := by
              refine ⟨by rw [w3 111 (by omega) (by omega)]; exact hRT2.1, by rw [w3 111 (by omega) (by omega)]; exact v3, fun m hm => ?_⟩
              have q2 := (hKt m hm).2
              have q7 : (I 113 (trk X n m)).toInt.toNat ≤ 7 := hw.2.1 m hm
              refine ⟨by rw [w3 120 (by omega) (by omega)]; exact (hRT2.2.2.1 m hm).1, by show 1 ≤ (I 113 (trk X n m)).toInt.toNat; omega, q7, (h124 m 0 hm (by omega)).1, ?_, ?_, (h124 m _ hm (show (I 113 (trk X n m)).toInt.toNat - 1 < (I 113 (trk X n m)).toInt.toNat by omega)).2⟩
              · show K3 124 (7 * m + (I 113 (trk X n m)).toInt.toNat - 1) = _
                rw [show 7 * m + (I 113 (trk X n m)).toInt.toNat - 1 = 7 * m + ((I 113 (trk X n m)).toInt.toNat - 1) by omega]
                exact (h124 m _ hm (by omega)).1
              · exact Nat.le_of_lt (cmo m 0 ((I 113 (trk X n m)).toInt.toNat - 1) hm (by omega) (by omega))
            refine ok_bind (ok_mono (findLanes_ok (N := N) hN hL1 h6 hd42 hRW) (fun K4 hK4 => ?_))
            obtain ⟨x1, x2, x3, x4⟩ := hK4
            -- class cells are as they were
            have hcl : ∀ a, (a < 111 ∨ (111 < a ∧ a < 118) ∨ 138 ≤ a) → K4 a = J a := fun a ha => by
              rw [x3 a (by omega) (by omega), w3 a (by omega) (by omega), v1 a (by omega) (by omega) (by omega) (by omega), u4 a (by omega) (by omega), rQ a (by omega)]
            have h111 : ∀ j, j ≠ 0 → j ≠ 9 → j ≠ 10 → j ≠ 20 → K4 111 j = J 111 j := fun j h3 h4 h5 h6 => by
              rw [x4 j h6, w3 111 (by omega) (by omega), v2 j h4, u3 j h5, rQ1 j h3 h5]
            have hcI : ∀ a, (a < 4 ∨ 50 < a ∧ a < 111 ∨ (111 < a ∧ a < 118)) → K4 a = I a := fun a ha => by rw [hcl a (by omega), cfr a (by omega)]
            have hoi : ∀ i, i < c → o i < c ∧ (lf o i).testBit (o i) = false := fun i hi => ⟨(hOP i hi).1, (hOP i hi).2.1⟩
            have k9 : K4 111 9 = nI d := by rw [x4 9 (by omega), w3 111 (by omega) (by omega)]; exact v3
            refine ok_some ⟨k9, ?_, ?_, ?_, c, d, _, o, _, _, _, rr, ⟨hw, hwm, fun m hm => (hKt m hm).2, hd42⟩, ⟨?_, ?_, hCM.congr h6 (fun a _ _ => hcl a (by omega)), hCF.congr h6 (fun a _ _ => hcl a (by omega))⟩, ⟨?_, ?_, k9⟩, ⟨fun i hi => ?_, fun m hm => ?_⟩, ⟨fun m j hm hj => ?_, cmo⟩, ⟨fun i hi => ?_, fun i j hij hj => ?_⟩, ⟨?_, ?_, ?_⟩, fun m hm => ?_, ?_⟩
            · exact hB.congr (fun a ha => hcI a (by omega)) (by show K4 0 4 = _; rw [hcI 0 (by omega)]) (by show K4 0 5 = _; rw [hcI 0 (by omega)]) (by show K4 111 1 = _; rw [h111 1 (by omega) (by omega) (by omega) (by omega), cfr 111 (by omega)]) (by show K4 111 2 = _; rw [h111 2 (by omega) (by omega) (by omega) (by omega), cfr 111 (by omega)])
            · exact hS.congr (hcI 3 (by omega)) (hcI 117 (by omega))
            · obtain ⟨kn, len, y1, y2, ⟨y3, y4, y5⟩, y6, y7⟩ := hV1
              have := y1.2.2.1
              refine ⟨kn, len, y1, y2, ⟨by show K4 8 4 = _; rw [hcl 8 (by omega)]; exact y3, y4, fun x hx => by show ∃ v, K4 kn x = _ ∧ _; rw [hcl kn (by omega)]; exact y5 x hx⟩, fun i hi => by show ∃ x, x < 12 ∧ K4 9 i = _; rw [hcl 9 (by omega)]; exact y6 i hi, y7⟩
            · exact hRT2.congr (by show K4 111 10 = _; rw [x4 10 (by omega), w3 111 (by omega) (by omega)]) (by show K4 120 = _; rw [x3 120 (by omega) (by omega), w3 120 (by omega) (by omega)]) (by show K4 121 = _; rw [x3 121 (by omega) (by omega), w3 121 (by omega) (by omega)])
            · unfold RF
              show ∀ k i, _ → _ → K4 122 _ = _ ∧ K4 123 _ = _
              rw [x3 122 (by omega) (by omega), w3 122 (by omega) (by omega), x3 123 (by omega) (by omega), w3 123 (by omega) (by omega)]
              exact hRF2
            · show K4 4 6 = _
              rw [hcl 4 (by omega)]; exact c46
            · show K4 8 0 = _
              rw [hcl 8 (by omega)]; exact c80
            · show K4 9 i = K4 118 i
              rw [hcl 9 (by omega), c9 i hi, x3 118 (by omega) (by omega), w3 118 (by omega) (by omega), v4 i hi]
            · show K4 6 m = K4 119 m
              rw [hcl 6 (by omega), c6 m hm, x3 119 (by omega) (by omega), w3 119 (by omega) (by omega), v1 119 (by omega) (by omega) (by omega) (by omega), (u2 m hm).1]
            · show K4 7 _ = _ ∧ K4 124 _ = _ ∧ _
              rw [hcl 7 (by omega), x3 124 (by omega) (by omega)]
              exact ⟨(c7 m j hm hj).1, h124 m j hm hj⟩
            · show K4 15 i = _ ∧ K4 125 i = _ ∧ _
              rw [hcl 15 (by omega), c15 i hi, x3 125 (by omega) (by omega), w2 i hi, om1 i hi]
              exact ⟨rfl, rfl, (hoi i hi).1⟩
            · intro e
              have := lf_bit (p := o) j i hij
              rw [e, (hoi j hj).2] at this
              cases this
            · unfold BR
              show K4 14 3 = _ ∧ ∀ a, a < c → K4 16 a = _
              rw [hcl 14 (by omega), hcl 16 (by omega)]; exact hBR
            · show K4 14 1 = _
              rw [hcl 14 (by omega), c141, om2]
            · show K4 14 2 = _
              rw [hcl 14 (by omega)]; exact c142
            · show K4 19 m = K4 126 m
              rw [hcl 19 (by omega), c19 m hm, x2 m hm]
            · show K4 18 0 = K4 111 20
              rw [hcl 18 (by omega), c180, x1]
          obtain ⟨⟨ra, K⟩, ek, k1, k2, k3, k4, k5⟩ := fin
          simp only at k1 k2 k3 k4 k5
          subst k1
          have eb := canBe_t (N := N) hN hL hK h4 hn10 hlt hX0 (by omega) h2
          refine ⟨nI d, J, R1, K, S + 1, ?_, ek, hL1, k2, k3, Nat.le_refl _, k4, hV1, k5, r51⟩
          unfold fX7_table fX4_rowCount
          have hL1' := hL1
          rw [eb]
          simp only [obs]
          rw [if_neg (show ¬ nI 1 = 0 by decide), p0_2 hL, p0_0 hL]
          simp only [obs]
          rw [ey]
          simp only [obs]
          rw [p0_2 hL1]
          simp only [obs]
          rw [p4_3 hL1]
          simp only [obs]
          rw [c80]
        · exact refuse (canBe_f (N := N) hN hL hK h4 hn10 hlt hX0 h6 h2) (ref_f (N := N) hN hL hK h1 hn10 hlt hX0 h6 h2)
      · refine refuse ?_ ?_
        · unfold fX7_canBeTable
          simp (disch := first | assumption | omega) only [obs, qle, ↓lm1, l0, qn_add, pk_mul, n_le, n_lt, n_eq, n_sM, n_Ms, n_Mlt, n_Mle, n_ltM, n_leM, ↓reduceIte, eq_self, if_pos, if_neg, qx, p0_0, p0_1, p0_2, p0_3, p2_0, p4_0, p4_1, p4_2, p4_3, p4_4, p4_5, p8_1, p8_5, p8_6, p8_7, p14_0, p14_4, p14_5, p18_1, p18_2, p51_4, p51_5, p51_8, p51_9, p51_10, p51_11, p51_12, p51_14, r3, w3, r6, w6, r7, w7, r9, w9, r10, w10, r11, w11, r12, w12, r15, w15, r16, w16, r17, w17, r19, w19, r20, w20, r53, w53, r54, w54, r55, w55, r56, w56, r57, w57, r58, w58, r59, w59, r60, w60, a1, a5, pt2, rt2, wt2, pt3, rt3, wt3, pt4, rt4, wt4, pt5, rt5, wt5, pm2, rm2, wm2, pm3, rm3, wm3, pm4, rm4, wm4, pm5, rm5, wm5, l1, l2, l3, l5, l6, l7, l8, l10, l11, l12, l31, l36, l63, l100, l1000, l1440, l1000000, l16777216, h4, n_1s, hb]
        · unfold fX8_table
          simp (disch := first | assumption | omega) only [obs, qle, ↓lm1, l0, qn_add, pk_mul, n_le, n_lt, n_eq, n_sM, n_Ms, n_Mlt, n_Mle, n_ltM, n_leM, ↓reduceIte, eq_self, if_pos, if_neg, qx, p111_3, p111_4, p111_5, p111_6, p111_7, p111_8, p111_11, p111_12, p111_13, p111_14, p111_15, p111_16, p111_17, p111_18, p111_19, p111_21, p111_22, p111_23, p111_24, p111_27, p111_28, p111_29, p111_30, p111_31, p111_32, p111_34, r112, w112, r113, w113, r114, w114, r115, w115, r116, w116, r117, w117, r118, w118, r119, w119, r120, w120, r121, w121, r122, w122, r123, w123, r124, w124, r125, w125, r126, w126, r127, w127, r128, w128, r129, w129, r130, w130, r131, w131, r132, w132, r133, w133, r134, w134, r135, w135, r136, w136, r137, w137, l1, l2, l3, l5, l6, l7, l8, l10, l11, l12, l31, l36, l63, l100, l1000, l1440, l1000000, l16777216, e11, n_1s, hb8]
    · refine refuse ?_ ?_
      · unfold fX7_canBeTable
        simp (disch := first | assumption | omega) only [obs, qle, ↓lm1, l0, qn_add, pk_mul, n_le, n_lt, n_eq, n_sM, n_Ms, n_Mlt, n_Mle, n_ltM, n_leM, ↓reduceIte, eq_self, if_pos, if_neg, qx, p0_0, p0_1, p0_2, p0_3, p2_0, p4_0, p4_1, p4_2, p4_3, p4_4, p4_5, p8_1, p8_5, p8_6, p8_7, p14_0, p14_4, p14_5, p18_1, p18_2, p51_4, p51_5, p51_8, p51_9, p51_10, p51_11, p51_12, p51_14, r3, w3, r6, w6, r7, w7, r9, w9, r10, w10, r11, w11, r12, w12, r15, w15, r16, w16, r17, w17, r19, w19, r20, w20, r53, w53, r54, w54, r55, w55, r56, w56, r57, w57, r58, w58, r59, w59, r60, w60, a1, a5, pt2, rt2, wt2, pt3, rt3, wt3, pt4, rt4, wt4, pt5, rt5, wt5, pm2, rm2, wm2, pm3, rm3, wm3, pm4, rm4, wm4, pm5, rm5, wm5, l1, l2, l3, l5, l6, l7, l8, l10, l11, l12, l31, l36, l63, l100, l1000, l1440, l1000000, l16777216, h4, n_1s]
      · unfold fX8_table
        simp (disch := first | assumption | omega) only [obs, qle, ↓lm1, l0, qn_add, pk_mul, n_le, n_lt, n_eq, n_sM, n_Ms, n_Mlt, n_Mle, n_ltM, n_leM, ↓reduceIte, eq_self, if_pos, if_neg, qx, p111_3, p111_4, p111_5, p111_6, p111_7, p111_8, p111_11, p111_12, p111_13, p111_14, p111_15, p111_16, p111_17, p111_18, p111_19, p111_21, p111_22, p111_23, p111_24, p111_27, p111_28, p111_29, p111_30, p111_31, p111_32, p111_34, r112, w112, r113, w113, r114, w114, r115, w115, r116, w116, r117, w117, r118, w118, r119, w119, r120, w120, r121, w121, r122, w122, r123, w123, r124, w124, r125, w125, r126, w126, r127, w127, r128, w128, r129, w129, r130, w130, r131, w131, r132, w132, r133, w133, r134, w134, r135, w135, r136, w136, r137, w137, l1, l2, l3, l5, l6, l7, l8, l10, l11, l12, l31, l36, l63, l100, l1000, l1440, l1000000, l16777216, e11, n_1s]
