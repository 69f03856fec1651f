/-! THE CLASS CHOOSES TRAINS AND STATIONS -/
section CH7
variable {n : Nat} {NS : Nat → Nat} {ST CT GT : Nat → Nat → Nat} {D : Nat → Nat} {W F day T v M N : Nat} {R : qR}
theorem firstBoard_ok {I : qI} {a b t mm : Nat} (hN : 300000 ≤ N) (hL : LR R) (w : wb n NS ST CT GT (rD n day D) W F) (hF : FPx R I n NS ST CT GT D W day) (ha : a < n) (hb : b < NS a) (ht : t < n) (hm : mm < 100) : ok (fX6_firstBoard N R I 51 (61 + 5 * a) (nI b) (61 + 5 * t) (nP mm)) (fun r => (r = nM ∧ ∀ i, ¬ ((∃ j, b < j ∧ j < NS a ∧ cc ST CT GT W a j t i) ∧ i < NS t ∧ i < mm)) ∨ ∃ i, r = nI i ∧ ((∃ j, b < j ∧ j < NS a ∧ cc ST CT GT W a j t i) ∧ i < NS t ∧ i < mm) ∧ ∀ i2, i2 < i → ¬ ((∃ j, b < j ∧ j < NS a ∧ cc ST CT GT W a j t i2) ∧ i2 < NS t ∧ i2 < mm)) := by
  have hn10 := w.1
  obtain ⟨p0, p1, p2, p3, p4, p5, p6⟩ := id hF
  have ha10 : a < 10 := by omega
  have ht10 : t < 10 := by omega
  obtain ⟨z1, z2, z3, z4, z5, z6⟩ := p5 a ha10
  have hnst := (p5 t ht10).1
  unfold fX6_firstBoard
  rw [lm1, l1, qn_add]
  refine ok_bind (ok_mono (P := fun r => (r = nM ∧ ∀ i, ¬ ((∃ j, b < j ∧ j < NS a ∧ cc ST CT GT W a j t i) ∧ i < NS t ∧ i < mm)) ∨ ∃ i, r = nI i ∧ ((∃ j, b < j ∧ j < NS a ∧ cc ST CT GT W a j t i) ∧ i < NS t ∧ i < mm) ∧ ∀ i2, i2 < i → ¬ ((∃ j, b < j ∧ j < NS a ∧ cc ST CT GT W a j t i2) ∧ i2 < NS t ∧ i2 < mm)) ?_ (fun r hr => ok_some hr))
  refine ok_for (fun k q => ∃ v5, q = (v5, nI (b + 1 + k)) ∧ ((v5 = nM ∧ ∀ i, ¬ ((∃ j, b < j ∧ j < b + 1 + k ∧ cc ST CT GT W a j t i) ∧ i < NS t ∧ i < mm)) ∨ ∃ i, v5 = nI i ∧ ((∃ j, b < j ∧ j < b + 1 + k ∧ cc ST CT GT W a j t i) ∧ i < NS t ∧ i < mm) ∧ ∀ i2, i2 < i → ¬ ((∃ j, b < j ∧ j < b + 1 + k ∧ cc ST CT GT W a j t i2) ∧ i2 < NS t ∧ i2 < mm))) (NS a - (b + 1)) (by omega) ⟨nM, rfl, Or.inl ⟨rfl, fun i ⟨⟨j, h1, h2, _⟩, _⟩ => by omega⟩⟩ (fun k q hk hq => ?_) (fun q hq => ?_)
  · obtain ⟨v5, rfl, g1⟩ := hq
    have cch := canCh (R := R) (j := b + 1 + k) hL w hF ha (by omega) ht hm
    obtain ⟨a1, a2, a3, a4, a5, a6⟩ := z4 (b + 1 + k) (by omega)
    have s12 := a1.2.2
    by_cases hP : ∃ i, i < NS t ∧ cc ST CT GT W a (b + 1 + k) t i ∧ i < mm
    · obtain ⟨i, h1, h2, h3⟩ := id hP
      have e4 : I (61 + 5 * t + 4) (ST a (b + 1 + k)) = nI i := by rw [h2.1]; exact ((p5 t ht10).2.2.2.1 i h1).2.2.2.2.2
      have huq : ∀ i2, i2 < NS t → cc ST CT GT W a (b + 1 + k) t i2 → i2 = i := fun i2 q1 q2 => (w.2.2.2.2 t ht).2.2.2 i2 i q1 h1 (by rw [← q2.1, h2.1])
      have old : ∀ i2, ((∃ j, b < j ∧ j < b + 1 + (k + 1) ∧ cc ST CT GT W a j t i2) ∧ i2 < NS t ∧ i2 < mm) → i2 = i ∨ ((∃ j, b < j ∧ j < b + 1 + k ∧ cc ST CT GT W a j t i2) ∧ i2 < NS t ∧ i2 < mm) := by
        rintro i2 ⟨⟨j, q1, q2, q3⟩, q4, q5⟩
        by_cases e : j = b + 1 + k
        · subst e; exact Or.inl (huq i2 q4 q3)
        · exact Or.inr ⟨⟨j, q1, by omega, q3⟩, q4, q5⟩
      rw [ind_t hP] at cch
      rcases g1 with ⟨q1, q2⟩ | ⟨i0, q1, q2, q3⟩
      · subst q1
        refine ⟨.inl (nI i, nI (b + 1 + (k + 1))), ?_, nI i, rfl, Or.inr ⟨i, rfl, ⟨⟨b + 1 + k, by omega, by omega, h2⟩, h1, h3⟩, fun i2 hi2 q => ?_⟩⟩
        · show cX6_firstBoard_8 N R I 51 (61 + 5 * a) (61 + 5 * t) (nP mm) nM (nI (b + 1 + k)) = _
          unfold cX6_firstBoard_8
          simp (disch := first | assumption | omega) only [obs, qle, ↓lm1, l0, qn_add, pk_mul, n_le, n_lt, n_eq, n_sM, n_Ms, n_Mlt, n_Mle, n_ltM, n_leM, ↓reduceIte, eq_self, if_pos, if_neg, qx, p0_0, p0_1, p0_2, p0_3, p2_0, p4_0, p4_1, p4_2, p4_3, p4_4, p4_5, p8_1, p8_5, p8_6, p8_7, p14_0, p14_4, p14_5, p18_1, p18_2, p51_4, p51_5, p51_8, p51_9, p51_10, p51_11, p51_12, p51_14, r3, w3, r6, w6, r7, w7, r9, w9, r10, w10, r11, w11, r12, w12, r15, w15, r16, w16, r17, w17, r19, w19, r20, w20, r53, w53, r54, w54, r55, w55, r56, w56, r57, w57, r58, w58, r59, w59, r60, w60, a1, a5, pt2, rt2, wt2, pt3, rt3, wt3, pt4, rt4, wt4, pt5, rt5, wt5, pm2, rm2, wm2, pm3, rm3, wm3, pm4, rm4, wm4, pm5, rm5, wm5, l1, l2, l3, l5, l6, l7, l8, l10, l11, l12, l31, l36, l63, l100, l1000, l1440, l1000000, l16777216, z3, cch, a1.2.1, e4]
          rfl
        · rcases old i2 q with e | e
          · omega
          · exact q2 i2 e
      · subst q1
        have hi07 : i0 < 7 := by have := q2.2.1; omega
        by_cases hlt : i < i0
        · refine ⟨.inl (nI i, nI (b + 1 + (k + 1))), ?_, nI i, rfl, Or.inr ⟨i, rfl, ⟨⟨b + 1 + k, by omega, by omega, h2⟩, h1, h3⟩, fun i2 hi2 q => ?_⟩⟩
          · show cX6_firstBoard_8 N R I 51 (61 + 5 * a) (61 + 5 * t) (nP mm) (nI i0) (nI (b + 1 + k)) = _
            unfold cX6_firstBoard_8
            simp (disch := first | assumption | omega) only [obs, qle, ↓lm1, l0, qn_add, pk_mul, n_le, n_lt, n_eq, n_sM, n_Ms, n_Mlt, n_Mle, n_ltM, n_leM, ↓reduceIte, eq_self, if_pos, if_neg, qx, p0_0, p0_1, p0_2, p0_3, p2_0, p4_0, p4_1, p4_2, p4_3, p4_4, p4_5, p8_1, p8_5, p8_6, p8_7, p14_0, p14_4, p14_5, p18_1, p18_2, p51_4, p51_5, p51_8, p51_9, p51_10, p51_11, p51_12, p51_14, r3, w3, r6, w6, r7, w7, r9, w9, r10, w10, r11, w11, r12, w12, r15, w15, r16, w16, r17, w17, r19, w19, r20, w20, r53, w53, r54, w54, r55, w55, r56, w56, r57, w57, r58, w58, r59, w59, r60, w60, a1, a5, pt2, rt2, wt2, pt3, rt3, wt3, pt4, rt4, wt4, pt5, rt5, wt5, pm2, rm2, wm2, pm3, rm3, wm3, pm4, rm4, wm4, pm5, rm5, wm5, l1, l2, l3, l5, l6, l7, l8, l10, l11, l12, l31, l36, l63, l100, l1000, l1440, l1000000, l16777216, z3, cch, a1.2.1, e4]
            rfl
          · rcases old i2 q with e | e
            · omega
            · exact q3 i2 (by omega) e
        · refine ⟨.inl (nI i0, nI (b + 1 + (k + 1))), ?_, nI i0, rfl, Or.inr ⟨i0, rfl, ⟨?_, q2.2⟩, fun i2 hi2 q => ?_⟩⟩
          · show cX6_firstBoard_8 N R I 51 (61 + 5 * a) (61 + 5 * t) (nP mm) (nI i0) (nI (b + 1 + k)) = _
            unfold cX6_firstBoard_8
            simp (disch := first | assumption | omega) only [obs, qle, ↓lm1, l0, qn_add, pk_mul, n_le, n_lt, n_eq, n_sM, n_Ms, n_Mlt, n_Mle, n_ltM, n_leM, ↓reduceIte, eq_self, if_pos, if_neg, qx, p0_0, p0_1, p0_2, p0_3, p2_0, p4_0, p4_1, p4_2, p4_3, p4_4, p4_5, p8_1, p8_5, p8_6, p8_7, p14_0, p14_4, p14_5, p18_1, p18_2, p51_4, p51_5, p51_8, p51_9, p51_10, p51_11, p51_12, p51_14, r3, w3, r6, w6, r7, w7, r9, w9, r10, w10, r11, w11, r12, w12, r15, w15, r16, w16, r17, w17, r19, w19, r20, w20, r53, w53, r54, w54, r55, w55, r56, w56, r57, w57, r58, w58, r59, w59, r60, w60, a1, a5, pt2, rt2, wt2, pt3, rt3, wt3, pt4, rt4, wt4, pt5, rt5, wt5, pm2, rm2, wm2, pm3, rm3, wm3, pm4, rm4, wm4, pm5, rm5, wm5, l1, l2, l3, l5, l6, l7, l8, l10, l11, l12, l31, l36, l63, l100, l1000, l1440, l1000000, l16777216, z3, cch, a1.2.1, e4]
            rfl
          · obtain ⟨j, r1, r2, r3⟩ := q2.1
            exact ⟨j, r1, by omega, r3⟩
          · rcases old i2 q with e | e
            · omega
            · exact q3 i2 hi2 e
    · rw [ind_f hP] at cch
      have old : ∀ i2, ((∃ j, b < j ∧ j < b + 1 + (k + 1) ∧ cc ST CT GT W a j t i2) ∧ i2 < NS t ∧ i2 < mm) → ((∃ j, b < j ∧ j < b + 1 + k ∧ cc ST CT GT W a j t i2) ∧ i2 < NS t ∧ i2 < mm) := by
        rintro i2 ⟨⟨j, q1, q2, q3⟩, q4, q5⟩
        by_cases e : j = b + 1 + k
        · subst e; exact absurd ⟨i2, q4, q3, q5⟩ hP
        · exact ⟨⟨j, q1, by omega, q3⟩, q4, q5⟩
      refine ⟨.inl (v5, nI (b + 1 + (k + 1))), ?_, v5, rfl, ?_⟩
      · show cX6_firstBoard_8 N R I 51 (61 + 5 * a) (61 + 5 * t) (nP mm) v5 (nI (b + 1 + k)) = _
        unfold cX6_firstBoard_8
        simp (disch := first | assumption | omega) only [obs, qle, ↓lm1, l0, qn_add, pk_mul, n_le, n_lt, n_eq, n_sM, n_Ms, n_Mlt, n_Mle, n_ltM, n_leM, ↓reduceIte, eq_self, if_pos, if_neg, qx, p0_0, p0_1, p0_2, p0_3, p2_0, p4_0, p4_1, p4_2, p4_3, p4_4, p4_5, p8_1, p8_5, p8_6, p8_7, p14_0, p14_4, p14_5, p18_1, p18_2, p51_4, p51_5, p51_8, p51_9, p51_10, p51_11, p51_12, p51_14, r3, w3, r6, w6, r7, w7, r9, w9, r10, w10, r11, w11, r12, w12, r15, w15, r16, w16, r17, w17, r19, w19, r20, w20, r53, w53, r54, w54, r55, w55, r56, w56, r57, w57, r58, w58, r59, w59, r60, w60, a1, a5, pt2, rt2, wt2, pt3, rt3, wt3, pt4, rt4, wt4, pt5, rt5, wt5, pm2, rm2, wm2, pm3, rm3, wm3, pm4, rm4, wm4, pm5, rm5, wm5, l1, l2, l3, l5, l6, l7, l8, l10, l11, l12, l31, l36, l63, l100, l1000, l1440, l1000000, l16777216, z3, cch]
        rfl
      · rcases g1 with ⟨q1, q2⟩ | ⟨i0, q1, q2, q3⟩
        · exact Or.inl ⟨q1, fun i q => q2 i (old i q)⟩
        · refine Or.inr ⟨i0, q1, ⟨?_, q2.2⟩, fun i2 hi2 q => q3 i2 hi2 (old i2 q)⟩
          obtain ⟨j, r1, r2, r3⟩ := q2.1
          exact ⟨j, r1, by omega, r3⟩
  · obtain ⟨v5, rfl, g1⟩ := hq
    have e : b + 1 + (NS a - (b + 1)) = NS a := by omega
    rw [e] at g1 ⊢
    refine ⟨.inr v5, ?_, g1⟩
    show cX6_firstBoard_8 N R I 51 (61 + 5 * a) (61 + 5 * t) (nP mm) v5 (nI (NS a)) = _
    unfold cX6_firstBoard_8
    simp (disch := first | assumption | omega) only [obs, qle, ↓lm1, l0, qn_add, pk_mul, n_le, n_lt, n_eq, n_sM, n_Ms, n_Mlt, n_Mle, n_ltM, n_leM, ↓reduceIte, eq_self, if_pos, if_neg, qx, p0_0, p0_1, p0_2, p0_3, p2_0, p4_0, p4_1, p4_2, p4_3, p4_4, p4_5, p8_1, p8_5, p8_6, p8_7, p14_0, p14_4, p14_5, p18_1, p18_2, p51_4, p51_5, p51_8, p51_9, p51_10, p51_11, p51_12, p51_14, r3, w3, r6, w6, r7, w7, r9, w9, r10, w10, r11, w11, r12, w12, r15, w15, r16, w16, r17, w17, r19, w19, r20, w20, r53, w53, r54, w54, r55, w55, r56, w56, r57, w57, r58, w58, r59, w59, r60, w60, a1, a5, pt2, rt2, wt2, pt3, rt3, wt3, pt4, rt4, wt4, pt5, rt5, wt5, pm2, rm2, wm2, pm3, rm3, wm3, pm4, rm4, wm4, pm5, rm5, wm5, l1, l2, l3, l5, l6, l7, l8, l10, l11, l12, l31, l36, l63, l100, l1000, l1440, l1000000, l16777216, z3]
theorem chooseTrain_ok {I : qI} {L m a b : Nat} (hN : 300000 ≤ N) (hL : LR R) (w : wb n NS ST CT GT (rD n day D) W F) (hF : FPx R I n NS ST CT GT D W day) (hB : LB n NS ST CT GT D W day T v L I) (h7 : I 51 7 = nI L) (hm0 : 0 < m) (hmL : m < L) (hL10 : L ≤ 10) (h55 : I 55 (m - 1) = nI a) (h57 : I 57 (m - 1) = nI b) (ha : a < n) (hb : b < NS a) (hw1 : hw NS ST CT GT (rD n day D) W T v (L - 1 - (m - 1)) a b) : ok (fX6_chooseTrain N R I 51 (nI m)) (fun J => ∃ t i, nxt NS ST CT GT (rD n day D) W T v a b (L - 1 - m) t i ∧ (∀ t2 i2, t2 < t → ¬ nxt NS ST CT GT (rD n day D) W T v a b (L - 1 - m) t2 i2) ∧ (∀ i2, i2 < i → ¬ nxt NS ST CT GT (rD n day D) W T v a b (L - 1 - m) t i2) ∧ J = qup (qup I 55 m (nI t)) 57 m (nI i)) := by
  have hn10 := w.1
  obtain ⟨p0, p1, p2, p3, p4, p5, p6⟩ := id hF
  have hns7 := (p5 a (by omega)).1
  -- one serves
  have hex : ∃ t i, t < n ∧ nxt NS ST CT GT (rD n day D) W T v a b (L - 1 - m) t i := by
    obtain ⟨j, q1, q2⟩ := hw1
    rw [show L - 1 - (m - 1) = (L - 1 - m) + 1 by omega] at q2
    obtain ⟨r1, r2, r3, u, i, r4, j2, r5, r6⟩ := (gw_succ NS ST CT GT (rD n day D) W T v).mp q2
    have hk := gw_ok NS ST CT GT (rD n day D) W T v r6
    exact ⟨u, i, hk.1.1, ⟨j, q1, r3, r4⟩, by omega, j2, r5, r6⟩
  have ha10 : a < 10 := by omega
  unfold fX6_chooseTrain
  rw [l0]
  refine ok_bind (ok_mono (P := fun o => ∃ J, o = Sum.inr J ∧ ∃ t i, nxt NS ST CT GT (rD n day D) W T v a b (L - 1 - m) t i ∧ (∀ t2 i2, t2 < t → ¬ nxt NS ST CT GT (rD n day D) W T v a b (L - 1 - m) t2 i2) ∧ (∀ i2, i2 < i → ¬ nxt NS ST CT GT (rD n day D) W T v a b (L - 1 - m) t i2) ∧ J = qup (qup I 55 m (nI t)) 57 m (nI i)) ?_ (fun o ho => ?_))
  · refine ok_for (fun t q => q = nI t ∧ ∀ t2 i2, t2 < t → ¬ nxt NS ST CT GT (rD n day D) W T v a b (L - 1 - m) t2 i2) n (by omega) ⟨rfl, fun t i h => by omega⟩ (fun t q ht hq => ?_) (fun q hq => ?_)
    · obtain ⟨rfl, g1⟩ := hq
      obtain ⟨mm, m1, m2, m3⟩ := hB (L - 1 - m) t (by omega) ht
      have ht10 : t < 10 := by omega
      have iff1 : ∀ i, ((∃ j, b < j ∧ j < NS a ∧ cc ST CT GT W a j t i) ∧ i < NS t ∧ i < mm) ↔ nxt NS ST CT GT (rD n day D) W T v a b (L - 1 - m) t i := fun i => by
        unfold nxt
        rw [hw_iff NS ST CT GT (rD n day D) W T v m2]
      obtain ⟨r, er, hr⟩ := firstBoard_ok (N := N) (R := R) hN hL w hF ha hb ht (show mm < 100 by omega)
      rcases hr with ⟨rfl, h2⟩ | ⟨i, rfl, h2, h3⟩
      · refine ⟨.inl (nI (t + 1)), ?_, rfl, fun t2 i2 h4 => ?_⟩
        · show cX6_chooseTrain_2 N R I 51 (nI m) (nI t) = _
          unfold cX6_chooseTrain_2
          simp (disch := first | assumption | omega) only [obs, qle, ↓lm1, l0, qn_add, pk_mul, n_le, n_lt, n_eq, n_sM, n_Ms, n_Mlt, n_Mle, n_ltM, n_leM, ↓reduceIte, eq_self, if_pos, if_neg, qx, p0_0, p0_1, p0_2, p0_3, p2_0, p4_0, p4_1, p4_2, p4_3, p4_4, p4_5, p8_1, p8_5, p8_6, p8_7, p14_0, p14_4, p14_5, p18_1, p18_2, p51_4, p51_5, p51_8, p51_9, p51_10, p51_11, p51_12, p51_14, r3, w3, r6, w6, r7, w7, r9, w9, r10, w10, r11, w11, r12, w12, r15, w15, r16, w16, r17, w17, r19, w19, r20, w20, r53, w53, r54, w54, r55, w55, r56, w56, r57, w57, r58, w58, r59, w59, r60, w60, a1, a5, pt2, rt2, wt2, pt3, rt3, wt3, pt4, rt4, wt4, pt5, rt5, wt5, pm2, rm2, wm2, pm3, rm3, wm3, pm4, rm4, wm4, pm5, rm5, wm5, l1, l2, l3, l5, l6, l7, l8, l10, l11, l12, l31, l36, l63, l100, l1000, l1440, l1000000, l16777216, p0, p1, h7, qn_sub, m1, h55, h57, er]
        · by_cases e : t2 = t
          · subst e; exact fun q => h2 i2 ((iff1 i2).mpr q)
          · exact g1 t2 i2 (by omega)
      · have hi7 : i < 7 := by have := (p5 t ht10).1; have := h2.2.1; omega
        refine ⟨.inr (.inr (qup (qup I 55 m (nI t)) 57 m (nI i))), ?_, _, rfl, t, i, (iff1 i).mp h2, g1, fun i2 hi2 q => h3 i2 hi2 ((iff1 i2).mpr q), rfl⟩
        show cX6_chooseTrain_2 N R I 51 (nI m) (nI t) = _
        unfold cX6_chooseTrain_2
        simp (disch := first | assumption | omega) only [obs, qle, ↓lm1, l0, qn_add, pk_mul, n_le, n_lt, n_eq, n_sM, n_Ms, n_Mlt, n_Mle, n_ltM, n_leM, ↓reduceIte, eq_self, if_pos, if_neg, qx, p0_0, p0_1, p0_2, p0_3, p2_0, p4_0, p4_1, p4_2, p4_3, p4_4, p4_5, p8_1, p8_5, p8_6, p8_7, p14_0, p14_4, p14_5, p18_1, p18_2, p51_4, p51_5, p51_8, p51_9, p51_10, p51_11, p51_12, p51_14, r3, w3, r6, w6, r7, w7, r9, w9, r10, w10, r11, w11, r12, w12, r15, w15, r16, w16, r17, w17, r19, w19, r20, w20, r53, w53, r54, w54, r55, w55, r56, w56, r57, w57, r58, w58, r59, w59, r60, w60, a1, a5, pt2, rt2, wt2, pt3, rt3, wt3, pt4, rt4, wt4, pt5, rt5, wt5, pm2, rm2, wm2, pm3, rm3, wm3, pm4, rm4, wm4, pm5, rm5, wm5, l1, l2, l3, l5, l6, l7, l8, l10, l11, l12, l31, l36, l63, l100, l1000, l1440, l1000000, l16777216, p0, p1, h7, qn_sub, m1, h55, h57, er]
    · obtain ⟨rfl, g1⟩ := hq
      obtain ⟨t, i, h1, h2⟩ := hex
      exact absurd h2 (g1 t i h1)
  · obtain ⟨J, rfl, hJ⟩ := ho
    exact ok_some hJ
theorem chooseTrains_ok {I : qI} {L : Nat} (hN : 300000 ≤ N) (hL : LR R) (w : wb n NS ST CT GT (rD n day D) W F) (hF : FPx R I n NS ST CT GT D W day) (hB : LB n NS ST CT GT D W day T v L I) (h7 : I 51 7 = nI L) (hL0 : 0 < L) (hL10 : L ≤ 10) (hM : M ≤ 1440) (hex : ∃ t, ft NS ST CT GT (rD n day D) W F T v M (L - 1) t) : ok (fX6_chooseTrains N R I 51 (nI F) (nI M)) (fun J => ∃ tr b, chs NS ST CT GT (rD n day D) W F T v M L tr b L ∧ (∀ m, m < L → J 55 m = nI (tr m) ∧ tr m < n) ∧ J 57 0 = nI (b 0) ∧ ∀ a, a ≠ 55 → a ≠ 57 → J a = I a) := by
  have hn10 := w.1
  have hF12 := w.2.2.1
  obtain ⟨p0, p1, p2, p3, p4, p5, p6⟩ := id hF
  obtain ⟨r, er, hr⟩ := firstTrain7_ok (N := N) (R := R) hN hL w hF hB h7 hL0 hL10 hM
  rcases hr with ⟨_, h⟩ | ⟨t0, rfl, h1, h2, h3⟩
  · obtain ⟨t, ht⟩ := hex
    exact absurd ht (h t)
  obtain ⟨i0, c1, c2, c3⟩ := id h2
  have ht10 : t0 < 10 := by omega
  have e4 : I (61 + 5 * t0 + 4) F = nI i0 := by rw [← c2.1]; exact ((p5 t0 ht10).2.2.2.1 i0 c1).2.2.2.2.2
  unfold fX6_chooseTrains
  refine ok_bindv (p51_8 hL) (ok_bindv er ?_)
  rw [l0, if_neg (show ¬ nI t0 < nI 0 by rw [n_lt (by omega) (by omega)]; omega)]
  refine ok_bindv (w55 hL (by omega)) (ok_bindv (p51_10 hL) (ok_bindv p0 (ok_bindv (r55 hL (by omega)) ?_)))
  rw [qup_on]
  refine ok_bindv (a1 hL ht10) (ok_bindv (pt5 hL ht10) (ok_bindv (rt5 hL ht10 hF12) ?_))
  rw [qup_off (by omega), e4]
  refine ok_bindv (w57 hL (by omega)) ?_
  rw [l1]
  refine ok_bind (ok_mono (P := fun J => ∃ tr b, chs NS ST CT GT (rD n day D) W F T v M L tr b L ∧ (∀ m, m < L → J 55 m = nI (tr m) ∧ tr m < n) ∧ J 57 0 = nI (b 0) ∧ ∀ a, a ≠ 55 → a ≠ 57 → J a = I a) ?_ (fun r hr => ok_some hr))
  refine ok_for (fun k q => ∃ (J : qI) (tr b : Nat → Nat), q = (nI (k + 1), J) ∧ chs NS ST CT GT (rD n day D) W F T v M L tr b (k + 1) ∧ (∀ m, m < k + 1 → J 55 m = nI (tr m) ∧ tr m < n ∧ J 57 m = nI (b m)) ∧ ∀ a, a ≠ 55 → a ≠ 57 → J a = I a) (L - 1) (by omega) ⟨_, fun _ => t0, fun _ => i0, rfl, fun m hm => ?_, fun m hm => ?_, fun a h4 h5 => by rw [qup_ne _ _ _ h5, qup_ne _ _ _ h4]⟩ (fun k q hk hq => ?_) (fun q hq => ?_)
  · obtain rfl : m = 0 := by omega
    exact ⟨fun _ => ⟨h2, h3, c1, c2.1, c2.2⟩, fun h => by omega, by rw [Nat.sub_zero]; exact c3, c1⟩
  · obtain rfl : m = 0 := by omega
    exact ⟨by rw [qup_off (by omega)]; exact qup_on, h1, qup_on⟩
  · obtain ⟨J, tr, b, rfl, g1, g2, g3⟩ := hq
    have hFJ : FPx R J n NS ST CT GT D W day := hF.congr hn10 (fun a ha => g3 a (by omega) (by omega)) (by rw [g3 51 (by omega) (by omega)]) (by rw [g3 51 (by omega) (by omega)]) (by rw [g3 51 (by omega) (by omega)])
    have hBJ : LB n NS ST CT GT D W day T v L J := fun k t h4 h5 => by rw [g3 54 (by omega) (by omega)]; exact hB k t h4 h5
    have e7 : J 51 7 = nI L := by rw [g3 51 (by omega) (by omega)]; exact h7
    obtain ⟨q1, q2, q3⟩ := g2 k (by omega)
    obtain ⟨_, _, s1, s2⟩ := g1 k (by omega)
    show ok (cX6_chooseTrains_40 N R 51 (nI (k + 1)) J) _
    unfold cX6_chooseTrains_40
    rw [e7, if_neg (show ¬ nI L ≤ nI (k + 1) by rw [n_le (by omega) (by omega)]; omega)]
    refine ok_bind (ok_mono (chooseTrain_ok (N := N) (R := R) (m := k + 1) hN hL w hFJ hBJ e7 (by omega) (by omega) hL10 (by rw [Nat.add_sub_cancel]; exact q1) (by rw [Nat.add_sub_cancel]; exact q3) q2 s2 (by rw [Nat.add_sub_cancel]; exact s1)) (fun K hK => ?_))
    obtain ⟨t, i, u1, u2, u3, rfl⟩ := hK
    have htn : t < n := by obtain ⟨_, _, j, _, h9⟩ := u1; exact (gw_ok NS ST CT GT (rD n day D) W T v h9).1.1
    rw [nI_1]
    refine ok_some ⟨_, fun x => if x = k + 1 then t else tr x, fun x => if x = k + 1 then i else b x, rfl, fun m hm => ?_, fun m hm => ?_, fun a h4 h5 => by rw [qup_ne _ _ _ h5, qup_ne _ _ _ h4]; exact g3 a h4 h5⟩
    · by_cases e : m = k + 1
      · subst e
        simp only [if_pos, Nat.add_sub_cancel, if_neg (show ¬ k = k + 1 by omega)]
        exact ⟨fun h => by omega, fun _ => ⟨u1, u2, u3⟩, u1.2.2, u1.2.1⟩
      · have := g1 m (by omega)
        simp only [if_neg e, if_neg (show ¬ m - 1 = k + 1 by omega), if_neg (show ¬ 0 = k + 1 by omega)]
        exact this
    · by_cases e : m = k + 1
      · subst e
        simp only [if_pos]
        exact ⟨by rw [qup_off (by omega)]; exact qup_on, htn, qup_on⟩
      · simp only [if_neg e]
        rw [qup_off (by omega), qup_off (by omega), qup_off (by omega), qup_off (by omega)]
        exact g2 m (by omega)
  · obtain ⟨J, tr, b, rfl, g1, g2, g3⟩ := hq
    have e7 : J 51 7 = nI L := by rw [g3 51 (by omega) (by omega)]; exact h7
    have e : L - 1 + 1 = L := by omega
    rw [e] at g1 g2 ⊢
    refine ⟨.inr J, ?_, tr, b, g1, fun m hm => ⟨(g2 m hm).1, (g2 m hm).2.1⟩, (g2 0 hL0).2.2, g3⟩
    show cX6_chooseTrains_40 N R 51 (nI L) J = _
    unfold cX6_chooseTrains_40
    simp (disch := first | assumption | omega) only [obs, qle, ↓lm1, l0, qn_add, pk_mul, n_le, n_lt, n_eq, n_sM, n_Ms, n_Mlt, n_Mle, n_ltM, n_leM, ↓reduceIte, eq_self, if_pos, if_neg, qx, p0_0, p0_1, p0_2, p0_3, p2_0, p4_0, p4_1, p4_2, p4_3, p4_4, p4_5, p8_1, p8_5, p8_6, p8_7, p14_0, p14_4, p14_5, p18_1, p18_2, p51_4, p51_5, p51_8, p51_9, p51_10, p51_11, p51_12, p51_14, r3, w3, r6, w6, r7, w7, r9, w9, r10, w10, r11, w11, r12, w12, r15, w15, r16, w16, r17, w17, r19, w19, r20, w20, r53, w53, r54, w54, r55, w55, r56, w56, r57, w57, r58, w58, r59, w59, r60, w60, a1, a5, pt2, rt2, wt2, pt3, rt3, wt3, pt4, rt4, wt4, pt5, rt5, wt5, pm2, rm2, wm2, pm3, rm3, wm3, pm4, rm4, wm4, pm5, rm5, wm5, l1, l2, l3, l5, l6, l7, l8, l10, l11, l12, l31, l36, l63, l100, l1000, l1440, l1000000, l16777216, e7]
/-- the last stop by which a train may be left -/
def isq (NS : Nat → Nat) (ST CT GT : Nat → Nat → Nat) (W T v : Nat) (tr : Nat → Nat) (d m q : Nat) : Prop := (q = 0 ∧ ∀ j, ¬ rgo NS ST CT GT W T v tr d m j) ∨ (rgo NS ST CT GT W T v tr d m q ∧ ∀ j, rgo NS ST CT GT W T v tr d m j → j ≤ q)
theorem isq_iff {tr : Nat → Nat} {d m q i : Nat} (h : isq NS ST CT GT W T v tr d m q) : (∃ j, i < j ∧ rgo NS ST CT GT W T v tr d m j) ↔ i < q := by
  constructor
  · rintro ⟨j, h1, h2⟩
    rcases h with ⟨_, h3⟩ | ⟨_, h3⟩
    · exact absurd h2 (h3 j)
    · have := h3 j h2; omega
  · intro hi
    rcases h with ⟨h3, _⟩ | ⟨h3, _⟩
    · omega
    · exact ⟨q, hi, h3⟩
theorem rgo_q {tr : Nat → Nat} {d m q j : Nat} (h : isq NS ST CT GT W T v tr d (m + 1) q) : rgo NS ST CT GT W T v tr (d + 1) m j ↔ 1 ≤ j ∧ j < NS (tr m) ∧ ∃ i, i < NS (tr (m + 1)) ∧ cc ST CT GT W (tr m) j (tr (m + 1)) i ∧ i < q := by
  constructor
  · rintro ⟨h1, h2, i, j2, h3, h4, h5⟩
    have h6 := (isq_iff h).mp ⟨j2, h3, h5⟩
    have h7 := (rgo_ok NS ST CT GT W T v h5).2
    exact ⟨h1, h2, i, by omega, h4, h6⟩
  · rintro ⟨h1, h2, i, h3, h4, h5⟩
    obtain ⟨j2, h6, h7⟩ := (isq_iff h).mpr h5
    exact ⟨h1, h2, i, j2, h6, h4, h7⟩
theorem limit_ok {I : qI} {tr : Nat → Nat} {d m q : Nat} (hN : 300000 ≤ N) (hL : LR R) (w : wb n NS ST CT GT (rD n day D) W F) (hF : FPx R I n NS ST CT GT D W day) (h1 : tr m < n) (h2 : tr (m + 1) < n) (hq : isq NS ST CT GT W T v tr d (m + 1) q) (hq8 : q < 8) (hns : 0 < NS (tr m)) : ∃ q2, fX6_limitBefore N R I 51 (61 + 5 * tr m) (61 + 5 * tr (m + 1)) (nP q) = some (nP q2) ∧ isq NS ST CT GT W T v tr (d + 1) m q2 ∧ q2 < 8 := by
  have hn10 := w.1
  obtain ⟨p0, p1, p2, p3, p4, p5, p6⟩ := id hF
  obtain ⟨z1, z2, z3, z4, z5, z6⟩ := p5 (tr m) (by omega)
  have key : ok (fX6_limitBefore N R I 51 (61 + 5 * tr m) (61 + 5 * tr (m + 1)) (nP q)) (fun r => ∃ q2, r = nP q2 ∧ isq NS ST CT GT W T v tr (d + 1) m q2 ∧ q2 < 8) := by
    unfold fX6_limitBefore
    rw [z3, l1, nP_sub]
    refine ok_bind (ok_mono (P := fun r => ∃ q2, r = nI q2 ∧ isq NS ST CT GT W T v tr (d + 1) m q2 ∧ q2 < 8) ?_ (fun r hr => ?_))
    · refine ok_for (fun x s => ∃ p, p + x + 1 = NS (tr m) ∧ s = nI p ∧ ∀ j, p < j → ¬ rgo NS ST CT GT W T v tr (d + 1) m j) (NS (tr m) - 1) (by omega) ⟨NS (tr m) - 1, by omega, ?_, fun j hj q => by have := (rgo_ok NS ST CT GT W T v q).2; omega⟩ (fun x s hx hs => ?_) (fun s hs => ?_)
      · obtain ⟨y, hy⟩ : ∃ y, NS (tr m) = y + 1 := ⟨NS (tr m) - 1, by omega⟩
        rw [hy]; rfl
      · obtain ⟨p, g0, rfl, g1⟩ := hs
        have cch := canCh (R := R) (j := p) hL w hF h1 (by omega) h2 (show q < 100 by omega)
        by_cases hP : ∃ i, i < NS (tr (m + 1)) ∧ cc ST CT GT W (tr m) p (tr (m + 1)) i ∧ i < q
        · rw [ind_t hP] at cch
          refine ⟨.inr (nI p), ?_, p, rfl, Or.inr ⟨(rgo_q hq).mpr ⟨by omega, by omega, hP⟩, fun j hj => Classical.byContradiction (fun q => g1 j (by omega) hj)⟩, by omega⟩
          show cX6_limitBefore_8 N R I 51 (61 + 5 * tr m) (61 + 5 * tr (m + 1)) (nP q) (nI p) = _
          unfold cX6_limitBefore_8
          simp (disch := first | assumption | omega) only [obs, qle, ↓lm1, l0, qn_add, pk_mul, n_le, n_lt, n_eq, n_sM, n_Ms, n_Mlt, n_Mle, n_ltM, n_leM, ↓reduceIte, eq_self, if_pos, if_neg, qx, p0_0, p0_1, p0_2, p0_3, p2_0, p4_0, p4_1, p4_2, p4_3, p4_4, p4_5, p8_1, p8_5, p8_6, p8_7, p14_0, p14_4, p14_5, p18_1, p18_2, p51_4, p51_5, p51_8, p51_9, p51_10, p51_11, p51_12, p51_14, r3, w3, r6, w6, r7, w7, r9, w9, r10, w10, r11, w11, r12, w12, r15, w15, r16, w16, r17, w17, r19, w19, r20, w20, r53, w53, r54, w54, r55, w55, r56, w56, r57, w57, r58, w58, r59, w59, r60, w60, a1, a5, pt2, rt2, wt2, pt3, rt3, wt3, pt4, rt4, wt4, pt5, rt5, wt5, pm2, rm2, wm2, pm3, rm3, wm3, pm4, rm4, wm4, pm5, rm5, wm5, l1, l2, l3, l5, l6, l7, l8, l10, l11, l12, l31, l36, l63, l100, l1000, l1440, l1000000, l16777216, cch]
        · rw [ind_f hP] at cch
          obtain ⟨p', rfl⟩ : ∃ p', p = p' + 1 := ⟨p - 1, by omega⟩
          refine ⟨.inl (nI p'), ?_, p', by omega, rfl, fun j hj => ?_⟩
          · show cX6_limitBefore_8 N R I 51 (61 + 5 * tr m) (61 + 5 * tr (m + 1)) (nP q) (nI (p' + 1)) = _
            unfold cX6_limitBefore_8
            simp (disch := first | assumption | omega) only [obs, qle, ↓lm1, l0, qn_add, pk_mul, n_le, n_lt, n_eq, n_sM, n_Ms, n_Mlt, n_Mle, n_ltM, n_leM, ↓reduceIte, eq_self, if_pos, if_neg, qx, p0_0, p0_1, p0_2, p0_3, p2_0, p4_0, p4_1, p4_2, p4_3, p4_4, p4_5, p8_1, p8_5, p8_6, p8_7, p14_0, p14_4, p14_5, p18_1, p18_2, p51_4, p51_5, p51_8, p51_9, p51_10, p51_11, p51_12, p51_14, r3, w3, r6, w6, r7, w7, r9, w9, r10, w10, r11, w11, r12, w12, r15, w15, r16, w16, r17, w17, r19, w19, r20, w20, r53, w53, r54, w54, r55, w55, r56, w56, r57, w57, r58, w58, r59, w59, r60, w60, a1, a5, pt2, rt2, wt2, pt3, rt3, wt3, pt4, rt4, wt4, pt5, rt5, wt5, pm2, rm2, wm2, pm3, rm3, wm3, pm4, rm4, wm4, pm5, rm5, wm5, l1, l2, l3, l5, l6, l7, l8, l10, l11, l12, l31, l36, l63, l100, l1000, l1440, l1000000, l16777216, cch, n_dec]
          · by_cases e : j = p' + 1
            · subst e; exact fun q => hP ((rgo_q hq).mp q).2.2
            · exact g1 j (by omega)
      · obtain ⟨p, g0, rfl, g1⟩ := hs
        obtain rfl : p = 0 := by omega
        refine ⟨.inr (nI 0), ?_, 0, rfl, Or.inl ⟨rfl, fun j q => g1 j (by have := (rgo_ok NS ST CT GT W T v q).1; omega) q⟩, by omega⟩
        show cX6_limitBefore_8 N R I 51 (61 + 5 * tr m) (61 + 5 * tr (m + 1)) (nP q) (nI 0) = _
        unfold cX6_limitBefore_8
        simp (disch := first | assumption | omega) only [obs, qle, ↓lm1, l0, qn_add, pk_mul, n_le, n_lt, n_eq, n_sM, n_Ms, n_Mlt, n_Mle, n_ltM, n_leM, ↓reduceIte, eq_self, if_pos, if_neg, qx, p0_0, p0_1, p0_2, p0_3, p2_0, p4_0, p4_1, p4_2, p4_3, p4_4, p4_5, p8_1, p8_5, p8_6, p8_7, p14_0, p14_4, p14_5, p18_1, p18_2, p51_4, p51_5, p51_8, p51_9, p51_10, p51_11, p51_12, p51_14, r3, w3, r6, w6, r7, w7, r9, w9, r10, w10, r11, w11, r12, w12, r15, w15, r16, w16, r17, w17, r19, w19, r20, w20, r53, w53, r54, w54, r55, w55, r56, w56, r57, w57, r58, w58, r59, w59, r60, w60, a1, a5, pt2, rt2, wt2, pt3, rt3, wt3, pt4, rt4, wt4, pt5, rt5, wt5, pm2, rm2, wm2, pm3, rm3, wm3, pm4, rm4, wm4, pm5, rm5, wm5, l1, l2, l3, l5, l6, l7, l8, l10, l11, l12, l31, l36, l63, l100, l1000, l1440, l1000000, l16777216]
    · obtain ⟨q2, rfl, h⟩ := hr
      rw [nP_sub]
      exact ok_some ⟨q2, rfl, h⟩
  obtain ⟨r, e, q2, rfl, h⟩ := key
  exact ⟨q2, e, h⟩
theorem leastCh_ok {I : qI} {tr : Nat → Nat} {d m q b : Nat} (hN : 300000 ≤ N) (hL : LR R) (w : wb n NS ST CT GT (rD n day D) W F) (hF : FPx R I n NS ST CT GT D W day) (hm : m + 1 < 10) (h1 : tr m < n) (h2 : tr (m + 1) < n) (hq : isq NS ST CT GT W T v tr d (m + 1) q) (hq8 : q < 8) (e55 : I 55 m = nI (tr m)) (e55b : I 55 (m + 1) = nI (tr (m + 1))) (e56 : I 56 (m + 1) = nP q) (e57 : I 57 m = nI b) (hb : b < NS (tr m)) (hex : ∃ j, b < j ∧ rgo NS ST CT GT W T v tr (d + 1) m j) : ∃ l, fX6_leastChange N R I 51 (nI m) = some (nI l) ∧ (b < l ∧ rgo NS ST CT GT W T v tr (d + 1) m l) ∧ ∀ j, b < j → rgo NS ST CT GT W T v tr (d + 1) m j → ST (tr m) l ≤ ST (tr m) j := by
  have hn10 := w.1
  obtain ⟨p0, p1, p2, p3, p4, p5, p6⟩ := id hF
  obtain ⟨z1, z2, z3, z4, z5, z6⟩ := p5 (tr m) (by omega)
  have ht10 : tr m < 10 := by omega
  have ht11 : tr (m + 1) < 10 := by omega
  have key : ok (fX6_leastChange N R I 51 (nI m)) (fun r => ∃ l, r = nI l ∧ (b < l ∧ rgo NS ST CT GT W T v tr (d + 1) m l) ∧ ∀ j, b < j → rgo NS ST CT GT W T v tr (d + 1) m j → ST (tr m) l ≤ ST (tr m) j) := by
    unfold fX6_leastChange
    refine ok_bindv p0 (ok_bindv (p51_8 hL) (ok_bindv (r55 hL (by omega)) ?_))
    rw [e55]
    refine ok_bindv (a1 hL ht10) (ok_bindv (p51_10 hL) (ok_bindv (r57 hL (by omega)) ?_))
    rw [e57, lm1, l1, l0, qn_add]
    refine ok_bind (ok_mono (P := fun o => ∃ l, o = nI l ∧ (b < l ∧ rgo NS ST CT GT W T v tr (d + 1) m l) ∧ ∀ j, b < j → rgo NS ST CT GT W T v tr (d + 1) m j → ST (tr m) l ≤ ST (tr m) j) ?_ (fun r hr => ?_))
    · refine ok_for (fun k s => ∃ v3, s = (v3, nI (b + 1 + k)) ∧ ((v3 = nM ∧ ∀ j, b < j → j < b + 1 + k → ¬ rgo NS ST CT GT W T v tr (d + 1) m j) ∨ ∃ l, v3 = nI l ∧ (b < l ∧ rgo NS ST CT GT W T v tr (d + 1) m l) ∧ ∀ j, b < j → j < b + 1 + k → rgo NS ST CT GT W T v tr (d + 1) m j → ST (tr m) l ≤ ST (tr m) j)) (NS (tr m) - (b + 1)) (by omega) ⟨nM, rfl, Or.inl ⟨rfl, fun j h3 h4 => by omega⟩⟩ (fun k s hk hs => ?_) (fun s hs => ?_)
      · obtain ⟨v3, rfl, g1⟩ := hs
        have cch := canCh (R := R) (j := b + 1 + k) hL w hF h1 (by omega) h2 (show q < 100 by omega)
        have a1' := (z4 (b + 1 + k) (by omega)).1
        have s12 := a1'.2.2
        by_cases hP : ∃ i, i < NS (tr (m + 1)) ∧ cc ST CT GT W (tr m) (b + 1 + k) (tr (m + 1)) i ∧ i < q
        · have hr := (rgo_q hq).mpr ⟨show 1 ≤ b + 1 + k by omega, by omega, hP⟩
          rw [ind_t hP] at cch
          rcases g1 with ⟨rfl, q2⟩ | ⟨l, rfl, q2, q3⟩
          · refine ⟨.inl (nI (b + 1 + k), nI (b + 1 + (k + 1))), ?_, _, rfl, Or.inr ⟨b + 1 + k, rfl, ⟨by omega, hr⟩, fun j h3 h4 h5 => ?_⟩⟩
            · show cX6_leastChange_24 N R I 51 (nI m) (61 + 5 * tr m) nM (nI (b + 1 + k)) = _
              unfold cX6_leastChange_24
              simp (disch := first | assumption | omega) only [obs, qle, ↓lm1, l0, qn_add, pk_mul, n_le, n_lt, n_eq, n_sM, n_Ms, n_Mlt, n_Mle, n_ltM, n_leM, ↓reduceIte, eq_self, if_pos, if_neg, qx, p0_0, p0_1, p0_2, p0_3, p2_0, p4_0, p4_1, p4_2, p4_3, p4_4, p4_5, p8_1, p8_5, p8_6, p8_7, p14_0, p14_4, p14_5, p18_1, p18_2, p51_4, p51_5, p51_8, p51_9, p51_10, p51_11, p51_12, p51_14, r3, w3, r6, w6, r7, w7, r9, w9, r10, w10, r11, w11, r12, w12, r15, w15, r16, w16, r17, w17, r19, w19, r20, w20, r53, w53, r54, w54, r55, w55, r56, w56, r57, w57, r58, w58, r59, w59, r60, w60, a1, a5, pt2, rt2, wt2, pt3, rt3, wt3, pt4, rt4, wt4, pt5, rt5, wt5, pm2, rm2, wm2, pm3, rm3, wm3, pm4, rm4, wm4, pm5, rm5, wm5, l1, l2, l3, l5, l6, l7, l8, l10, l11, l12, l31, l36, l63, l100, l1000, l1440, l1000000, l16777216, z3, p0, e55b, e56, cch]
              rfl
            · by_cases e : j = b + 1 + k
              · rw [e]; exact Nat.le_refl _
              · exact absurd h5 (q2 j h3 (by omega))
          · have hl7 := (rgo_ok NS ST CT GT W T v q2.2).2
            have al := (z4 l hl7).1
            have sl := al.2.2
            by_cases hle : ST (tr m) l ≤ ST (tr m) (b + 1 + k)
            · refine ⟨.inl (nI l, nI (b + 1 + (k + 1))), ?_, _, rfl, Or.inr ⟨l, rfl, q2, fun j h3 h4 h5 => ?_⟩⟩
              · show cX6_leastChange_24 N R I 51 (nI m) (61 + 5 * tr m) (nI l) (nI (b + 1 + k)) = _
                unfold cX6_leastChange_24
                simp (disch := first | assumption | omega) only [obs, qle, ↓lm1, l0, qn_add, pk_mul, n_le, n_lt, n_eq, n_sM, n_Ms, n_Mlt, n_Mle, n_ltM, n_leM, ↓reduceIte, eq_self, if_pos, if_neg, qx, p0_0, p0_1, p0_2, p0_3, p2_0, p4_0, p4_1, p4_2, p4_3, p4_4, p4_5, p8_1, p8_5, p8_6, p8_7, p14_0, p14_4, p14_5, p18_1, p18_2, p51_4, p51_5, p51_8, p51_9, p51_10, p51_11, p51_12, p51_14, r3, w3, r6, w6, r7, w7, r9, w9, r10, w10, r11, w11, r12, w12, r15, w15, r16, w16, r17, w17, r19, w19, r20, w20, r53, w53, r54, w54, r55, w55, r56, w56, r57, w57, r58, w58, r59, w59, r60, w60, a1, a5, pt2, rt2, wt2, pt3, rt3, wt3, pt4, rt4, wt4, pt5, rt5, wt5, pm2, rm2, wm2, pm3, rm3, wm3, pm4, rm4, wm4, pm5, rm5, wm5, l1, l2, l3, l5, l6, l7, l8, l10, l11, l12, l31, l36, l63, l100, l1000, l1440, l1000000, l16777216, z3, p0, e55b, e56, cch, a1'.2.1, al.2.1]
                rfl
              · by_cases e : j = b + 1 + k
                · rw [e]; exact hle
                · exact q3 j h3 (by omega) h5
            · refine ⟨.inl (nI (b + 1 + k), nI (b + 1 + (k + 1))), ?_, _, rfl, Or.inr ⟨b + 1 + k, rfl, ⟨by omega, hr⟩, fun j h3 h4 h5 => ?_⟩⟩
              · show cX6_leastChange_24 N R I 51 (nI m) (61 + 5 * tr m) (nI l) (nI (b + 1 + k)) = _
                unfold cX6_leastChange_24
                simp (disch := first | assumption | omega) only [obs, qle, ↓lm1, l0, qn_add, pk_mul, n_le, n_lt, n_eq, n_sM, n_Ms, n_Mlt, n_Mle, n_ltM, n_leM, ↓reduceIte, eq_self, if_pos, if_neg, qx, p0_0, p0_1, p0_2, p0_3, p2_0, p4_0, p4_1, p4_2, p4_3, p4_4, p4_5, p8_1, p8_5, p8_6, p8_7, p14_0, p14_4, p14_5, p18_1, p18_2, p51_4, p51_5, p51_8, p51_9, p51_10, p51_11, p51_12, p51_14, r3, w3, r6, w6, r7, w7, r9, w9, r10, w10, r11, w11, r12, w12, r15, w15, r16, w16, r17, w17, r19, w19, r20, w20, r53, w53, r54, w54, r55, w55, r56, w56, r57, w57, r58, w58, r59, w59, r60, w60, a1, a5, pt2, rt2, wt2, pt3, rt3, wt3, pt4, rt4, wt4, pt5, rt5, wt5, pm2, rm2, wm2, pm3, rm3, wm3, pm4, rm4, wm4, pm5, rm5, wm5, l1, l2, l3, l5, l6, l7, l8, l10, l11, l12, l31, l36, l63, l100, l1000, l1440, l1000000, l16777216, z3, p0, e55b, e56, cch, a1'.2.1, al.2.1]
                rfl
              · by_cases e : j = b + 1 + k
                · rw [e]; exact Nat.le_refl _
                · have := q3 j h3 (by omega) h5; omega
        · rw [ind_f hP] at cch
          have hr : ¬ rgo NS ST CT GT W T v tr (d + 1) m (b + 1 + k) := fun q => hP ((rgo_q hq).mp q).2.2
          refine ⟨.inl (v3, nI (b + 1 + (k + 1))), ?_, v3, rfl, ?_⟩
          · show cX6_leastChange_24 N R I 51 (nI m) (61 + 5 * tr m) v3 (nI (b + 1 + k)) = _
            unfold cX6_leastChange_24
            simp (disch := first | assumption | omega) only [obs, qle, ↓lm1, l0, qn_add, pk_mul, n_le, n_lt, n_eq, n_sM, n_Ms, n_Mlt, n_Mle, n_ltM, n_leM, ↓reduceIte, eq_self, if_pos, if_neg, qx, p0_0, p0_1, p0_2, p0_3, p2_0, p4_0, p4_1, p4_2, p4_3, p4_4, p4_5, p8_1, p8_5, p8_6, p8_7, p14_0, p14_4, p14_5, p18_1, p18_2, p51_4, p51_5, p51_8, p51_9, p51_10, p51_11, p51_12, p51_14, r3, w3, r6, w6, r7, w7, r9, w9, r10, w10, r11, w11, r12, w12, r15, w15, r16, w16, r17, w17, r19, w19, r20, w20, r53, w53, r54, w54, r55, w55, r56, w56, r57, w57, r58, w58, r59, w59, r60, w60, a1, a5, pt2, rt2, wt2, pt3, rt3, wt3, pt4, rt4, wt4, pt5, rt5, wt5, pm2, rm2, wm2, pm3, rm3, wm3, pm4, rm4, wm4, pm5, rm5, wm5, l1, l2, l3, l5, l6, l7, l8, l10, l11, l12, l31, l36, l63, l100, l1000, l1440, l1000000, l16777216, z3, p0, e55b, e56, cch]
            rfl
          · rcases g1 with ⟨q1, q2⟩ | ⟨l, q1, q2, q3⟩
            · refine Or.inl ⟨q1, fun j h3 h4 => ?_⟩
              by_cases e : j = b + 1 + k
              · rw [e]; exact hr
              · exact q2 j h3 (by omega)
            · refine Or.inr ⟨l, q1, q2, fun j h3 h4 h5 => ?_⟩
              by_cases e : j = b + 1 + k
              · rw [e] at h5; exact absurd h5 hr
              · exact q3 j h3 (by omega) h5
      · obtain ⟨v3, rfl, g1⟩ := hs
        have e : b + 1 + (NS (tr m) - (b + 1)) = NS (tr m) := by omega
        rw [e] at g1 ⊢
        refine ⟨.inr v3, ?_, ?_⟩
        · show cX6_leastChange_24 N R I 51 (nI m) (61 + 5 * tr m) v3 (nI (NS (tr m))) = _
          unfold cX6_leastChange_24
          simp (disch := first | assumption | omega) only [obs, qle, ↓lm1, l0, qn_add, pk_mul, n_le, n_lt, n_eq, n_sM, n_Ms, n_Mlt, n_Mle, n_ltM, n_leM, ↓reduceIte, eq_self, if_pos, if_neg, qx, p0_0, p0_1, p0_2, p0_3, p2_0, p4_0, p4_1, p4_2, p4_3, p4_4, p4_5, p8_1, p8_5, p8_6, p8_7, p14_0, p14_4, p14_5, p18_1, p18_2, p51_4, p51_5, p51_8, p51_9, p51_10, p51_11, p51_12, p51_14, r3, w3, r6, w6, r7, w7, r9, w9, r10, w10, r11, w11, r12, w12, r15, w15, r16, w16, r17, w17, r19, w19, r20, w20, r53, w53, r54, w54, r55, w55, r56, w56, r57, w57, r58, w58, r59, w59, r60, w60, a1, a5, pt2, rt2, wt2, pt3, rt3, wt3, pt4, rt4, wt4, pt5, rt5, wt5, pm2, rm2, wm2, pm3, rm3, wm3, pm4, rm4, wm4, pm5, rm5, wm5, l1, l2, l3, l5, l6, l7, l8, l10, l11, l12, l31, l36, l63, l100, l1000, l1440, l1000000, l16777216, z3]
        · rcases g1 with ⟨q1, q2⟩ | ⟨l, q1, q2, q3⟩
          · obtain ⟨j, h3, h4⟩ := hex
            exact absurd h4 (q2 j h3 (rgo_ok NS ST CT GT W T v h4).2)
          · exact ⟨l, q1, q2, fun j h3 h4 => q3 j h3 (rgo_ok NS ST CT GT W T v h4).2 h4⟩
    · obtain ⟨l, rfl, h⟩ := hr
      have := (rgo_ok NS ST CT GT W T v h.1.2).2
      rw [if_neg (show ¬ nI l < nI 0 by rw [n_lt (by omega) (by omega)]; omega)]
      exact ok_some ⟨l, rfl, h⟩
  obtain ⟨r, e, l, rfl, h⟩ := key
  exact ⟨l, e, h⟩
end CH7
