/-! THE CLASS'S SOONEST ARRIVAL -/
def rD (n day : Nat) (D : Nat → Nat) (t : Nat) : Prop := t < n ∧ (D t).testBit day = true
/-- the finder has set out -/
def FPx (R : qR) (I : qI) (n : Nat) (NS : Nat → Nat) (ST CT GT : Nat → Nat → Nat) (D : Nat → Nat) (W day : Nat) : Prop := R.1 51 0 = some 1 ∧ I 51 1 = nI n ∧ I 51 2 = nI day ∧ I 51 3 = nI W ∧ day < 7 ∧ BK I NS ST CT GT ∧ ∀ t, t < n → I (61 + 5 * t) 0 = nI (D t) ∧ D t < 128
theorem FPx.congr {R : qR} {I J : qI} {n : Nat} {NS : Nat → Nat} {ST CT GT : Nat → Nat → Nat} {D : Nat → Nat} {W day : Nat} (h : FPx R I n NS ST CT GT D W day) (hn : n ≤ 10) (e : ∀ a, (61 ≤ a ∧ a < 111 ∨ 112 ≤ a ∧ a ≤ 116) → J a = I a) (e1 : J 51 1 = I 51 1) (e2 : J 51 2 = I 51 2) (e3 : J 51 3 = I 51 3) : FPx R J n NS ST CT GT D W day := by
  obtain ⟨h1, h2, h3, h4, h5, h6, h7⟩ := h
  refine ⟨h1, by rw [e1]; exact h2, by rw [e2]; exact h3, by rw [e3]; exact h4, h5, h6.congr e, fun t ht => ?_⟩
  rw [e _ (by omega)]
  exact h7 t ht
theorem runs5_t {R : qR} {I : qI} {t D day : Nat} (hI : I (61 + 5 * t) 0 = nI D) (hd : day < 7) (h : D.testBit day = true) : fX5_runsOn R I (61 + 5 * t) (nI day) = some (nI 1) := by
  unfold fX5_runsOn
  rw [hI, if_neg (show ¬ ((nI D >>> (nI day &&& 31)) &&& (1 : Int32)) = 0 by rw [q_bit _ _ (by omega), h]; simp), l1]
theorem runs5_f {R : qR} {I : qI} {t D day : Nat} (hI : I (61 + 5 * t) 0 = nI D) (hd : day < 7) (h : ¬ D.testBit day = true) : fX5_runsOn R I (61 + 5 * t) (nI day) = some (nI 0) := by
  unfold fX5_runsOn
  rw [hI, if_pos (show ((nI D >>> (nI day &&& 31)) &&& (1 : Int32)) = 0 by rw [q_bit _ _ (by omega)]; simpa using h), l0]
section SOON
variable {n : Nat} {NS : Nat → Nat} {ST CT GT : Nat → Nat → Nat} {D : Nat → Nat} {W F day M N : Nat} {R : qR}
/-- what the arrivals are -/
def AI (n : Nat) (NS : Nat → Nat) (ST CT GT : Nat → Nat → Nat) (D : Nat → Nat) (W F day M : Nat) (I : qI) : Prop := (I 53 F).toInt = (M : Int) - W ∧ ∀ s, s < 12 → s ≠ F → ((I 53 s).toInt = 1000000 ∨ ∃ t j, RC NS ST CT GT (rD n day D) W F M t j ∧ ST t j = s ∧ (I 53 s).toInt = CT t j)
theorem AI.rng {I : qI} (w : wb n NS ST CT GT (rD n day D) W F) (hM : M ≤ 1440) (h : AI n NS ST CT GT D W F day M I) {s : Nat} (hs : s < 12) : -60 ≤ (I 53 s).toInt ∧ (I 53 s).toInt ≤ 1000000 := by
  have hW := w.2.1
  by_cases e : s = F
  · subst e
    have := h.1
    omega
  · rcases h.2 s hs e with q | ⟨t, j, q1, q2, q3⟩
    · omega
    · obtain ⟨r1, r2, _⟩ := (RC_iff NS ST CT GT (rD n day D) W F).mp q1
      have := ((w.2.2.2.2 t r1.1).2.1 j r2)
      omega
theorem ride_ok {I : qI} {t : Nat} (hN : 300000 ≤ N) (hL : LR R) (w : wb n NS ST CT GT (rD n day D) W F) (hM : M ≤ 1440) (hF : FPx R I n NS ST CT GT D W day) (hA : AI n NS ST CT GT D W F day M I) (ht : rD n day D t) : ok (fX6_ride N R I 51 (61 + 5 * t)) (fun y => (y.1 = nI 0 ∧ y.2 53 = I 53 ∨ y.1 = nI 1) ∧ AI n NS ST CT GT D W F day M y.2 ∧ (∀ a, a ≠ 53 → y.2 a = I a) ∧ (∀ s, s < 12 → (y.2 53 s).toInt ≤ (I 53 s).toInt) ∧ ∀ i, i < NS t → (I 53 (ST t i)).toInt + W ≤ GT t i → ∀ j, i < j → j < NS t → (y.2 53 (ST t j)).toInt ≤ CT t j) := by
  obtain ⟨p0, p1, p2, p3, p4, p5, p6⟩ := id hF
  have ht10 : t < 10 := by have := w.1; have := ht.1; omega
  obtain ⟨z1, z2, z3, z4, z5, z6⟩ := p5 t ht10
  have hW := w.2.1
  unfold fX6_ride
  rw [l0]
  refine ok_bind (ok_mono (P := fun (y : Int32 × qI) => (y.1 = nI 0 ∧ y.2 53 = I 53 ∨ y.1 = nI 1) ∧ AI n NS ST CT GT D W F day M y.2 ∧ (∀ a, a ≠ 53 → y.2 a = I a) ∧ (∀ s, s < 12 → (y.2 53 s).toInt ≤ (I 53 s).toInt) ∧ ∀ i, i < NS t → (I 53 (ST t i)).toInt + W ≤ GT t i → ∀ j, i < j → j < NS t → (y.2 53 (ST t j)).toInt ≤ CT t j) ?_ (fun y hy => ?_))
  · refine ok_for (fun i q => ∃ (ab so : Nat) (J : qI), q = (nI ab, nI so, nI i, J) ∧ (ab = 0 ∨ ab = 1 ∧ ∃ i2, i2 < i ∧ BD NS ST CT GT (rD n day D) W F M t i2) ∧ (so = 0 ∧ J 53 = I 53 ∨ so = 1) ∧ AI n NS ST CT GT D W F day M J ∧ (∀ a, a ≠ 53 → J a = I a) ∧ (∀ s, s < 12 → (J 53 s).toInt ≤ (I 53 s).toInt) ∧ ∀ i2, i2 < i → (I 53 (ST t i2)).toInt + W ≤ GT t i2 → ab = 1 ∧ ∀ j, i2 < j → j < i → (J 53 (ST t j)).toInt ≤ CT t j) (NS t) (by omega) ⟨0, 0, I, rfl, Or.inl rfl, Or.inl ⟨rfl, rfl⟩, hA, fun _ _ => rfl, fun s _ => Int.le_refl _, fun i2 h => by omega⟩ (fun i q hi hq => ?_) (fun q hq => ?_)
    · obtain ⟨ab, so, J, rfl, g1, g2, g3, g4, g5, g6⟩ := hq
      obtain ⟨y1, y2, y3, y4, y5, y6⟩ := z4 i hi
      have s12 := y1.2.2
      have e1 : J (61 + 5 * t) 1 = nI (NS t) := by rw [g4 _ (by omega)]; exact z3
      have e2 : J (61 + 5 * t + 1) i = nI (ST t i) := by rw [g4 _ (by omega)]; exact y1.2.1
      have e3 : J (61 + 5 * t + 2) i = nI (CT t i) := by rw [g4 _ (by omega)]; exact y2.2
      have e4 : J (61 + 5 * t + 3) i = nI (GT t i) := by rw [g4 _ (by omega)]; exact y3.2
      have e5 : J 51 3 = nI W := by rw [g4 _ (by omega)]; exact p3
      obtain ⟨b1, b2⟩ := g3.rng w hM s12
      have tw := tI_nI (n := W) (by omega)
      have tc := tI_nI (n := CT t i) (by omega)
      have tg := tI_nI (n := GT t i) (by omega)
      have hsum : (J 53 (ST t i) + nI W).toInt = (J 53 (ST t i)).toInt + W := by rw [ia (by omega) (by omega), tw]
      have hcond : (nI (GT t i) < J 53 (ST t i) + nI W) ↔ ¬ ((J 53 (ST t i)).toInt + W ≤ GT t i) := by rw [ilt, hsum, tg]; omega
      -- who may board now is boarded
      have hbd : (J 53 (ST t i)).toInt + W ≤ GT t i → BD NS ST CT GT (rD n day D) W F M t i := by
        intro hb
        by_cases e : ST t i = F
        · have h1 := g3.1
          rw [e] at hb
          exact Or.inl ⟨e, by omega⟩
        · rcases g3.2 _ s12 e with q | ⟨u, j2, q1, q2, q3⟩
          · omega
          · exact Or.inr ⟨u, j2, q1, q2, by omega⟩
      have hkeep : ∀ ab2 : Nat, (ab2 = 0 ∧ ab = 0 ∧ ¬ ((J 53 (ST t i)).toInt + W ≤ GT t i) ∨ ab2 = 1 ∧ (ab = 1 ∨ (J 53 (ST t i)).toInt + W ≤ GT t i)) → (ab2 = 0 ∨ ab2 = 1 ∧ ∃ i2, i2 < i + 1 ∧ BD NS ST CT GT (rD n day D) W F M t i2) := by
        intro ab2 h
        rcases h with ⟨h1, _⟩ | ⟨h1, h2⟩
        · exact Or.inl h1
        · refine Or.inr ⟨h1, ?_⟩
          rcases h2 with h2 | h2
          · rcases g1 with g1 | ⟨_, i2, q1, q2⟩
            · omega
            · exact ⟨i2, by omega, q2⟩
          · exact ⟨i, by omega, hbd h2⟩
      have hcomp : ∀ (ab2 : Nat) (K : qI), (ab2 = 0 ∧ ab = 0 ∧ ¬ ((J 53 (ST t i)).toInt + W ≤ GT t i) ∨ ab2 = 1 ∧ (ab = 1 ∨ (J 53 (ST t i)).toInt + W ≤ GT t i)) → (∀ s, s < 12 → (K 53 s).toInt ≤ (J 53 s).toInt) → (ab = 1 → (K 53 (ST t i)).toInt ≤ CT t i) → ∀ i2, i2 < i + 1 → (I 53 (ST t i2)).toInt + W ≤ GT t i2 → ab2 = 1 ∧ ∀ j, i2 < j → j < i + 1 → (K 53 (ST t j)).toInt ≤ CT t j := by
        intro ab2 K h hK hKi i2 hi2 hb
        by_cases e : i2 = i
        · subst e
          have := g5 _ s12
          refine ⟨?_, fun j h1 h2 => by omega⟩
          rcases h with ⟨_, _, h3⟩ | ⟨h1, _⟩
          · exact absurd (by omega) h3
          · exact h1
        · obtain ⟨q1, q2⟩ := g6 i2 (by omega) hb
          refine ⟨?_, fun j h1 h2 => ?_⟩
          · rcases h with ⟨_, h3, _⟩ | ⟨h1, _⟩
            · omega
            · exact h1
          · by_cases ej : j = i
            · subst ej; exact hKi q1
            · have := q2 j h1 (by omega)
              have := hK (ST t j) (z4 j (by omega)).1.2.2
              omega
      rcases g1 with g1 | ⟨g1, i2, gb1, gb2⟩
      · subst g1
        by_cases hb : (J 53 (ST t i)).toInt + W ≤ GT t i
        · have hc : ¬ nI (GT t i) < J 53 (ST t i) + nI W := by rw [hcond]; exact fun q => q hb
          refine ⟨.inl (nI 1, nI so, nI (i + 1), J), ?_, 1, so, J, rfl, hkeep 1 (Or.inr ⟨rfl, Or.inr hb⟩), g2, g3, g4, g5, hcomp 1 J (Or.inr ⟨rfl, Or.inr hb⟩) (fun _ _ => Int.le_refl _) (fun q => by omega)⟩
          show cX6_ride_7 N R 51 (61 + 5 * t) (nI 0) (nI so) (nI i) J = _
          unfold cX6_ride_7
          simp (disch := first | assumption | omega) only [obs, qle, ↓lm1, l0, qn_add, pk_mul, n_le, n_lt, n_eq, n_sM, n_Ms, n_Mlt, n_Mle, n_ltM, n_leM, ↓reduceIte, eq_self, if_pos, if_neg, qx, p0_0, p0_1, p0_2, p0_3, p2_0, p4_0, p4_1, p4_2, p4_3, p4_4, p4_5, p8_1, p8_5, p8_6, p8_7, p14_0, p14_4, p14_5, p18_1, p18_2, p51_4, p51_5, p51_8, p51_9, p51_10, p51_11, p51_12, p51_14, r3, w3, r6, w6, r7, w7, r9, w9, r10, w10, r11, w11, r12, w12, r15, w15, r16, w16, r17, w17, r19, w19, r20, w20, r53, w53, r54, w54, r55, w55, r56, w56, r57, w57, r58, w58, r59, w59, r60, w60, a1, a5, pt2, rt2, wt2, pt3, rt3, wt3, pt4, rt4, wt4, pt5, rt5, wt5, pm2, rm2, wm2, pm3, rm3, wm3, pm4, rm4, wm4, pm5, rm5, wm5, l1, l2, l3, l5, l6, l7, l8, l10, l11, l12, l31, l36, l63, l100, l1000, l1440, l1000000, l16777216, e1, e2, e4, e5, hc, fa_or]
          rfl
        · have hc : nI (GT t i) < J 53 (ST t i) + nI W := by rw [hcond]; exact hb
          refine ⟨.inl (nI 0, nI so, nI (i + 1), J), ?_, 0, so, J, rfl, Or.inl rfl, g2, g3, g4, g5, hcomp 0 J (Or.inl ⟨rfl, rfl, hb⟩) (fun _ _ => Int.le_refl _) (fun q => by omega)⟩
          show cX6_ride_7 N R 51 (61 + 5 * t) (nI 0) (nI so) (nI i) J = _
          unfold cX6_ride_7
          simp (disch := first | assumption | omega) only [obs, qle, ↓lm1, l0, qn_add, pk_mul, n_le, n_lt, n_eq, n_sM, n_Ms, n_Mlt, n_Mle, n_ltM, n_leM, ↓reduceIte, eq_self, if_pos, if_neg, qx, p0_0, p0_1, p0_2, p0_3, p2_0, p4_0, p4_1, p4_2, p4_3, p4_4, p4_5, p8_1, p8_5, p8_6, p8_7, p14_0, p14_4, p14_5, p18_1, p18_2, p51_4, p51_5, p51_8, p51_9, p51_10, p51_11, p51_12, p51_14, r3, w3, r6, w6, r7, w7, r9, w9, r10, w10, r11, w11, r12, w12, r15, w15, r16, w16, r17, w17, r19, w19, r20, w20, r53, w53, r54, w54, r55, w55, r56, w56, r57, w57, r58, w58, r59, w59, r60, w60, a1, a5, pt2, rt2, wt2, pt3, rt3, wt3, pt4, rt4, wt4, pt5, rt5, wt5, pm2, rm2, wm2, pm3, rm3, wm3, pm4, rm4, wm4, pm5, rm5, wm5, l1, l2, l3, l5, l6, l7, l8, l10, l11, l12, l31, l36, l63, l100, l1000, l1440, l1000000, l16777216, e1, e2, e4, e5, hc, fa_or]
          rfl
      · subst g1
        have hRC : RC NS ST CT GT (rD n day D) W F M t i := (RC_iff NS ST CT GT (rD n day D) W F).mpr ⟨ht, hi, i2, gb1, gb2⟩
        have hmin : M < CT t i := by obtain ⟨k, hk⟩ := hRC; exact RC_min n NS ST CT GT (rD n day D) W F w k t i hk
        by_cases hle : (J 53 (ST t i)).toInt ≤ CT t i
        · have hl : J 53 (ST t i) ≤ nI (CT t i) := by rw [ile, tc]; exact hle
          refine ⟨.inl (nI 1, nI so, nI (i + 1), J), ?_, 1, so, J, rfl, hkeep 1 (Or.inr ⟨rfl, Or.inl rfl⟩), g2, g3, g4, g5, hcomp 1 J (Or.inr ⟨rfl, Or.inl rfl⟩) (fun _ _ => Int.le_refl _) (fun _ => hle)⟩
          show cX6_ride_7 N R 51 (61 + 5 * t) (nI 1) (nI so) (nI i) J = _
          unfold cX6_ride_7
          by_cases hc : nI (GT t i) < J 53 (ST t i) + nI W
          · simp (disch := first | assumption | omega) only [obs, qle, ↓lm1, l0, qn_add, pk_mul, n_le, n_lt, n_eq, n_sM, n_Ms, n_Mlt, n_Mle, n_ltM, n_leM, ↓reduceIte, eq_self, if_pos, if_neg, qx, p0_0, p0_1, p0_2, p0_3, p2_0, p4_0, p4_1, p4_2, p4_3, p4_4, p4_5, p8_1, p8_5, p8_6, p8_7, p14_0, p14_4, p14_5, p18_1, p18_2, p51_4, p51_5, p51_8, p51_9, p51_10, p51_11, p51_12, p51_14, r3, w3, r6, w6, r7, w7, r9, w9, r10, w10, r11, w11, r12, w12, r15, w15, r16, w16, r17, w17, r19, w19, r20, w20, r53, w53, r54, w54, r55, w55, r56, w56, r57, w57, r58, w58, r59, w59, r60, w60, a1, a5, pt2, rt2, wt2, pt3, rt3, wt3, pt4, rt4, wt4, pt5, rt5, wt5, pm2, rm2, wm2, pm3, rm3, wm3, pm4, rm4, wm4, pm5, rm5, wm5, l1, l2, l3, l5, l6, l7, l8, l10, l11, l12, l31, l36, l63, l100, l1000, l1440, l1000000, l16777216, e1, e2, e3, e4, e5, hl, hc, fa_or]
            rfl
          · simp (disch := first | assumption | omega) only [obs, qle, ↓lm1, l0, qn_add, pk_mul, n_le, n_lt, n_eq, n_sM, n_Ms, n_Mlt, n_Mle, n_ltM, n_leM, ↓reduceIte, eq_self, if_pos, if_neg, qx, p0_0, p0_1, p0_2, p0_3, p2_0, p4_0, p4_1, p4_2, p4_3, p4_4, p4_5, p8_1, p8_5, p8_6, p8_7, p14_0, p14_4, p14_5, p18_1, p18_2, p51_4, p51_5, p51_8, p51_9, p51_10, p51_11, p51_12, p51_14, r3, w3, r6, w6, r7, w7, r9, w9, r10, w10, r11, w11, r12, w12, r15, w15, r16, w16, r17, w17, r19, w19, r20, w20, r53, w53, r54, w54, r55, w55, r56, w56, r57, w57, r58, w58, r59, w59, r60, w60, a1, a5, pt2, rt2, wt2, pt3, rt3, wt3, pt4, rt4, wt4, pt5, rt5, wt5, pm2, rm2, wm2, pm3, rm3, wm3, pm4, rm4, wm4, pm5, rm5, wm5, l1, l2, l3, l5, l6, l7, l8, l10, l11, l12, l31, l36, l63, l100, l1000, l1440, l1000000, l16777216, e1, e2, e3, e4, e5, hl, hc, fa_or]
            rfl
        · have hl : ¬ J 53 (ST t i) ≤ nI (CT t i) := by rw [ile, tc]; exact hle
          have hsF : ST t i ≠ F := fun e => by
            have := g3.1
            rw [e] at hle
            omega
          have hk53 : qup J 53 (ST t i) (nI (CT t i)) 53 (ST t i) = nI (CT t i) := qup_on
          have hkW : qup J 53 (ST t i) (nI (CT t i)) 51 3 = nI W := by rw [qup_off (by omega)]; exact e5
          have hkG : qup J 53 (ST t i) (nI (CT t i)) (61 + 5 * t + 3) i = nI (GT t i) := by rw [qup_off (by omega)]; exact e4
          have hmo : ∀ s, s < 12 → (qup J 53 (ST t i) (nI (CT t i)) 53 s).toInt ≤ (J 53 s).toInt := fun s hs => by
            by_cases e : s = ST t i
            · subst e; rw [hk53, tc]; omega
            · rw [qup_off (by omega)]; exact Int.le_refl _
          refine ⟨.inl (nI 1, nI 1, nI (i + 1), qup J 53 (ST t i) (nI (CT t i))), ?_, 1, 1, _, rfl, hkeep 1 (Or.inr ⟨rfl, Or.inl rfl⟩), Or.inr rfl, ⟨by rw [qup_off (Or.inr (fun e => hsF e.symm))]; exact g3.1, fun s hs hsf => ?_⟩, fun a ha => by rw [qup_ne _ _ _ ha]; exact g4 a ha, fun s hs => Int.le_trans (hmo s hs) (g5 s hs), hcomp 1 _ (Or.inr ⟨rfl, Or.inl rfl⟩) hmo (fun _ => by rw [hk53, tc]; exact Int.le_refl _)⟩
          · show cX6_ride_7 N R 51 (61 + 5 * t) (nI 1) (nI so) (nI i) J = _
            unfold cX6_ride_7
            by_cases hc : GT t i < CT t i + W
            · simp (disch := first | assumption | omega) only [obs, qle, ↓lm1, l0, qn_add, pk_mul, n_le, n_lt, n_eq, n_sM, n_Ms, n_Mlt, n_Mle, n_ltM, n_leM, ↓reduceIte, eq_self, if_pos, if_neg, qx, p0_0, p0_1, p0_2, p0_3, p2_0, p4_0, p4_1, p4_2, p4_3, p4_4, p4_5, p8_1, p8_5, p8_6, p8_7, p14_0, p14_4, p14_5, p18_1, p18_2, p51_4, p51_5, p51_8, p51_9, p51_10, p51_11, p51_12, p51_14, r3, w3, r6, w6, r7, w7, r9, w9, r10, w10, r11, w11, r12, w12, r15, w15, r16, w16, r17, w17, r19, w19, r20, w20, r53, w53, r54, w54, r55, w55, r56, w56, r57, w57, r58, w58, r59, w59, r60, w60, a1, a5, pt2, rt2, wt2, pt3, rt3, wt3, pt4, rt4, wt4, pt5, rt5, wt5, pm2, rm2, wm2, pm3, rm3, wm3, pm4, rm4, wm4, pm5, rm5, wm5, l1, l2, l3, l5, l6, l7, l8, l10, l11, l12, l31, l36, l63, l100, l1000, l1440, l1000000, l16777216, e1, e2, e3, hl, hk53, hkW, hkG, fa_or]
              rfl
            · simp (disch := first | assumption | omega) only [obs, qle, ↓lm1, l0, qn_add, pk_mul, n_le, n_lt, n_eq, n_sM, n_Ms, n_Mlt, n_Mle, n_ltM, n_leM, ↓reduceIte, eq_self, if_pos, if_neg, qx, p0_0, p0_1, p0_2, p0_3, p2_0, p4_0, p4_1, p4_2, p4_3, p4_4, p4_5, p8_1, p8_5, p8_6, p8_7, p14_0, p14_4, p14_5, p18_1, p18_2, p51_4, p51_5, p51_8, p51_9, p51_10, p51_11, p51_12, p51_14, r3, w3, r6, w6, r7, w7, r9, w9, r10, w10, r11, w11, r12, w12, r15, w15, r16, w16, r17, w17, r19, w19, r20, w20, r53, w53, r54, w54, r55, w55, r56, w56, r57, w57, r58, w58, r59, w59, r60, w60, a1, a5, pt2, rt2, wt2, pt3, rt3, wt3, pt4, rt4, wt4, pt5, rt5, wt5, pm2, rm2, wm2, pm3, rm3, wm3, pm4, rm4, wm4, pm5, rm5, wm5, l1, l2, l3, l5, l6, l7, l8, l10, l11, l12, l31, l36, l63, l100, l1000, l1440, l1000000, l16777216, e1, e2, e3, hl, hk53, hkW, hkG, fa_or]
              rfl
          · by_cases e : s = ST t i
            · subst e
              exact Or.inr ⟨t, i, hRC, rfl, by rw [hk53, tc]⟩
            · rw [qup_off (by omega)]
              exact g3.2 s hs hsf
    · obtain ⟨ab, so, J, rfl, g1, g2, g3, g4, g5, g6⟩ := hq
      have e1 : J (61 + 5 * t) 1 = nI (NS t) := by rw [g4 _ (by omega)]; exact z3
      refine ⟨.inr (nI so, J), ?_, ?_, g3, g4, g5, fun i hi hb j h1 h2 => (g6 i hi hb).2 j h1 h2⟩
      · show cX6_ride_7 N R 51 (61 + 5 * t) (nI ab) (nI so) (nI (NS t)) J = _
        unfold cX6_ride_7
        simp (disch := first | assumption | omega) only [obs, qle, ↓lm1, l0, qn_add, pk_mul, n_le, n_lt, n_eq, n_sM, n_Ms, n_Mlt, n_Mle, n_ltM, n_leM, ↓reduceIte, eq_self, if_pos, if_neg, qx, p0_0, p0_1, p0_2, p0_3, p2_0, p4_0, p4_1, p4_2, p4_3, p4_4, p4_5, p8_1, p8_5, p8_6, p8_7, p14_0, p14_4, p14_5, p18_1, p18_2, p51_4, p51_5, p51_8, p51_9, p51_10, p51_11, p51_12, p51_14, r3, w3, r6, w6, r7, w7, r9, w9, r10, w10, r11, w11, r12, w12, r15, w15, r16, w16, r17, w17, r19, w19, r20, w20, r53, w53, r54, w54, r55, w55, r56, w56, r57, w57, r58, w58, r59, w59, r60, w60, a1, a5, pt2, rt2, wt2, pt3, rt3, wt3, pt4, rt4, wt4, pt5, rt5, wt5, pm2, rm2, wm2, pm3, rm3, wm3, pm4, rm4, wm4, pm5, rm5, wm5, l1, l2, l3, l5, l6, l7, l8, l10, l11, l12, l31, l36, l63, l100, l1000, l1440, l1000000, l16777216, e1]
      · rcases g2 with ⟨q1, q2⟩ | q1
        · exact Or.inl ⟨by rw [q1], q2⟩
        · exact Or.inr (by rw [q1])
  · have hn : vp_nar .boolean y.1 = y.1 := by
      rcases hy.1 with ⟨q, _⟩ | q
      · rw [q]; exact nar0
      · rw [q]; exact nar1
    rw [if_pos hn]
    exact ok_some hy
/-- one round of all trains -/
theorem round_ok {I : qI} {v2 v5 : Int32} (hN : 300000 ≤ N) (hL : LR R) (w : wb n NS ST CT GT (rD n day D) W F) (hM : M ≤ 1440) (hF : FPx R I n NS ST CT GT D W day) (hA : AI n NS ST CT GT D W F day M I) : ok (qloop (fun s => cX6_soonestAt_47 N R 51 v2 v5 s.1 s.2.1 s.2.2) N (nI 0, nI 0, I)) (fun y => (y.1 = nI 0 ∧ y.2 53 = I 53 ∨ y.1 = nI 1) ∧ AI n NS ST CT GT D W F day M y.2 ∧ (∀ a, a ≠ 53 → y.2 a = I a) ∧ (∀ s, s < 12 → (y.2 53 s).toInt ≤ (I 53 s).toInt) ∧ ∀ t, rD n day D t → ∀ i, i < NS t → (I 53 (ST t i)).toInt + W ≤ GT t i → ∀ j, i < j → j < NS t → (y.2 53 (ST t j)).toInt ≤ CT t j) := by
  have hn10 := w.1
  refine ok_for (fun k q => ∃ (so : Nat) (J : qI), q = (nI so, nI k, J) ∧ (so = 0 ∧ J 53 = I 53 ∨ so = 1) ∧ AI n NS ST CT GT D W F day M J ∧ (∀ a, a ≠ 53 → J a = I a) ∧ (∀ s, s < 12 → (J 53 s).toInt ≤ (I 53 s).toInt) ∧ ∀ t, t < k → rD n day D t → ∀ i, i < NS t → (I 53 (ST t i)).toInt + W ≤ GT t i → ∀ j, i < j → j < NS t → (J 53 (ST t j)).toInt ≤ CT t j) n (by omega) ⟨0, I, rfl, Or.inl ⟨rfl, rfl⟩, hA, fun _ _ => rfl, fun s _ => Int.le_refl _, fun t h => by omega⟩ (fun k q hk hq => ?_) (fun q hq => ?_)
  · obtain ⟨so, J, rfl, g1, g2, g3, g4, g5⟩ := hq
    have hFJ : FPx R J n NS ST CT GT D W day := hF.congr hn10 (fun a ha => g3 a (by omega)) (by rw [g3 51 (by omega)]) (by rw [g3 51 (by omega)]) (by rw [g3 51 (by omega)])
    obtain ⟨p0, p1, p2, p3, p4, p5, p6⟩ := id hFJ
    show ok (cX6_soonestAt_47 N R 51 v2 v5 (nI so) (nI k) J) _
    unfold cX6_soonestAt_47
    rw [p1, p2, if_neg (show ¬ nI n ≤ nI k by rw [n_le (by omega) (by omega)]; omega)]
    refine ok_bindv p0 (ok_bindv (a1 hL (by omega)) ?_)
    by_cases hr : (D k).testBit day = true
    · refine ok_bindv (runs5_t (p6 k hk).1 p4 hr) ?_
      rw [if_neg (show ¬ nI 1 = 0 by decide)]
      refine ok_bind (ok_mono (ride_ok (N := N) hN hL w hM hFJ g2 ⟨hk, hr⟩) (fun y hy => ?_))
      obtain ⟨y1, K⟩ := y
      obtain ⟨k1, k2, k3, k4, k5⟩ := hy
      simp only at k1 k2 k3 k4 k5 ⊢
      have hfin : ∀ so2 : Nat, (so2 = 0 ∧ K 53 = I 53 ∨ so2 = 1) → ∃ (so : Nat) (J : qI), (nI so2, nI (k + 1), K) = (nI so, nI (k + 1), J) ∧ (so = 0 ∧ J 53 = I 53 ∨ so = 1) ∧ AI n NS ST CT GT D W F day M J ∧ (∀ a, a ≠ 53 → J a = I a) ∧ (∀ s, s < 12 → (J 53 s).toInt ≤ (I 53 s).toInt) ∧ ∀ t, t < k + 1 → rD n day D t → ∀ i, i < NS t → (I 53 (ST t i)).toInt + W ≤ GT t i → ∀ j, i < j → j < NS t → (J 53 (ST t j)).toInt ≤ CT t j := by
        intro so2 hso
        refine ⟨so2, K, rfl, hso, k2, fun a ha => (k3 a ha).trans (g3 a ha), fun s hs => Int.le_trans (k4 s hs) (g4 s hs), fun t ht hrt i hi hb j h1 h2 => ?_⟩
        have s12 := ((w.2.2.2.2 t hrt.1).2.1 j h2).1
        by_cases e : t = k
        · subst e
          have := g4 (ST t i) ((w.2.2.2.2 t hrt.1).2.1 i hi).1
          exact k5 i hi (by omega) j h1 h2
        · exact Int.le_trans (k4 _ s12) (g5 t (by omega) hrt i hi hb j h1 h2)
      rcases k1 with ⟨q1, q2⟩ | q1
      · subst q1
        rw [if_pos (show nI 0 = 0 by decide), l0, fa_or, nI_1]
        refine ok_some (hfin _ ?_)
        rcases g1 with ⟨q3, q4⟩ | q3
        · exact Or.inl ⟨by rw [q3]; rfl, q2.trans q4⟩
        · exact Or.inr (by rw [q3]; rfl)
      · subst q1
        rw [if_neg (show ¬ nI 1 = 0 by decide), l1, fa_or, qn_add]
        refine ok_some (hfin _ (Or.inr ?_))
        rcases g1 with ⟨q3, q4⟩ | q3
        · rw [q3]; rfl
        · rw [q3]; rfl
    · refine ok_bindv (runs5_f (p6 k hk).1 p4 hr) ?_
      rw [if_pos (show nI 0 = 0 by decide), l0, fa_or, nI_1]
      have e0 : so ||| 0 = so := Nat.or_zero so
      rw [e0]
      refine ok_some ⟨so, J, rfl, g1, g2, g3, g4, fun t ht hrt => ?_⟩
      by_cases e : t = k
      · subst e; exact absurd hrt.2 hr
      · exact g5 t (by omega) hrt
  · obtain ⟨so, J, rfl, g1, g2, g3, g4, g5⟩ := hq
    have e1 : J 51 1 = nI n := by rw [g3 51 (by omega)]; exact hF.2.1
    refine ⟨.inr (nI so, J), ?_, ?_, g2, g3, g4, fun t ht => g5 t ht.1 ht⟩
    · show cX6_soonestAt_47 N R 51 v2 v5 (nI so) (nI n) J = _
      unfold cX6_soonestAt_47
      simp (disch := first | assumption | omega) only [obs, qle, ↓lm1, l0, qn_add, pk_mul, n_le, n_lt, n_eq, n_sM, n_Ms, n_Mlt, n_Mle, n_ltM, n_leM, ↓reduceIte, eq_self, if_pos, if_neg, qx, p0_0, p0_1, p0_2, p0_3, p2_0, p4_0, p4_1, p4_2, p4_3, p4_4, p4_5, p8_1, p8_5, p8_6, p8_7, p14_0, p14_4, p14_5, p18_1, p18_2, p51_4, p51_5, p51_8, p51_9, p51_10, p51_11, p51_12, p51_14, r3, w3, r6, w6, r7, w7, r9, w9, r10, w10, r11, w11, r12, w12, r15, w15, r16, w16, r17, w17, r19, w19, r20, w20, r53, w53, r54, w54, r55, w55, r56, w56, r57, w57, r58, w58, r59, w59, r60, w60, a1, a5, pt2, rt2, wt2, pt3, rt3, wt3, pt4, rt4, wt4, pt5, rt5, wt5, pm2, rm2, wm2, pm3, rm3, wm3, pm4, rm4, wm4, pm5, rm5, wm5, l1, l2, l3, l5, l6, l7, l8, l10, l11, l12, l31, l36, l63, l100, l1000, l1440, l1000000, l16777216, e1]
    · rcases g1 with ⟨q1, q2⟩ | q1
      · exact Or.inl ⟨by rw [q1], q2⟩
      · exact Or.inr (by rw [q1])
theorem soonestAt_ok {I : qI} {T : Nat} (hN : 300000 ≤ N) (hL : LR R) (w : wb n NS ST CT GT (rD n day D) W F) (hM : M ≤ 1440) (hF : FPx R I n NS ST CT GT D W day) (hT : T < 12) (hTF : T ≠ F) : ok (fX6_soonestAt N R I 51 (nI F) (nI T) (nI M)) (fun y => ((SNo NS ST CT GT (rD n day D) W F M T ∧ y.1 = nI 1000000) ∨ ∃ v, SN NS ST CT GT (rD n day D) W F M T v ∧ y.1 = nI v) ∧ ∀ a, a ≠ 53 → y.2 a = I a) := by
  have hn10 := w.1
  have hW := w.2.1
  have hF12 := w.2.2.1
  unfold fX6_soonestAt
  refine ok_bindv (p51_4 hL) (ok_bind (ok_mono (fill_ok (N := N) (by omega) (hL.l 53 rfl) (by omega)) (fun J0 hJ0 => ?_)))
  obtain ⟨j1, j2, j3⟩ := hJ0
  refine ok_bindv (w53 hL hF12) ?_
  rw [j2 51 (by omega), hF.2.2.2.1]
  have hMW : (nI M - nI W).toInt = (M : Int) - W := by rw [isu (by rw [tI_nI (by omega), tI_nI (by omega)]; omega) (by rw [tI_nI (by omega), tI_nI (by omega)]; omega), tI_nI (by omega), tI_nI (by omega)]
  generalize hQ : qup J0 53 F (nI M - nI W) = Q
  have hfr : ∀ a, a ≠ 53 → Q a = I a := fun a ha => by rw [← hQ, qup_ne _ _ _ ha, j2 a ha]
  have hAQ : AI n NS ST CT GT D W F day M Q := by
    refine ⟨by rw [← hQ, qup_on]; exact hMW, fun s hs hne => Or.inl ?_⟩
    rw [← hQ, qup_off (by omega), j1 s hs]
    decide
  rw [l1, l0]
  refine ok_bind (ok_mono (P := fun J => AI n NS ST CT GT D W F day M J ∧ (∀ a, a ≠ 53 → J a = I a) ∧ ∀ t j, RC NS ST CT GT (rD n day D) W F M t j → (J 53 (ST t j)).toInt ≤ CT t j) ?_ (fun J hJ => ?_))
  · refine ok_for (fun r q => ∃ (so : Nat) (J : qI), q = (nI so, nI r, J) ∧ so ≤ 1 ∧ AI n NS ST CT GT D W F day M J ∧ (∀ a, a ≠ 53 → J a = I a) ∧ (∀ t j, rc NS ST CT GT (rD n day D) W F M r t j → (J 53 (ST t j)).toInt ≤ CT t j) ∧ (so = 0 → ∀ t j, RC NS ST CT GT (rD n day D) W F M t j → (J 53 (ST t j)).toInt ≤ CT t j)) n (by omega) ⟨1, Q, rfl, Nat.le_refl _, hAQ, hfr, fun t j h => h.elim, fun h => by omega⟩ (fun r q hr hq => ?_) (fun q hq => ?_)
    · obtain ⟨so, J, rfl, g0, g1, g2, g3, g4⟩ := hq
      have hFJ : FPx R J n NS ST CT GT D W day := hF.congr hn10 (fun a ha => g2 a (by omega)) (by rw [g2 51 (by omega)]) (by rw [g2 51 (by omega)]) (by rw [g2 51 (by omega)])
      show ok (cX6_soonestAt_27 N R 51 (nI T) (nI so) (nI r) J) _
      unfold cX6_soonestAt_27
      rw [hFJ.2.1, if_neg (show ¬ nI n ≤ nI r by rw [n_le (by omega) (by omega)]; omega)]
      by_cases h0 : so = 0
      · subst h0
        rw [if_pos (show nI 0 = 0 by decide)]
        exact ok_some ⟨g1, g2, g4 rfl⟩
      · obtain rfl : so = 1 := by omega
        rw [if_neg (show ¬ nI 1 = 0 by decide), l0]
        refine ok_bind (ok_mono (round_ok (N := N) hN hL w hM hFJ g1) (fun y hy => ?_))
        obtain ⟨y1, K⟩ := y
        obtain ⟨k1, k2, k3, k4, k5⟩ := hy
        simp only at k1 k2 k3 k4 k5 ⊢
        have hstep : ∀ (B : Nat → Nat → Prop), (∀ t j, B t j → (J 53 (ST t j)).toInt ≤ CT t j) → ∀ t j, (rD n day D t ∧ j < NS t ∧ ∃ i, i < j ∧ (fb ST GT F M t i ∨ ∃ u j2, B u j2 ∧ ST u j2 = ST t i ∧ CT u j2 + W ≤ GT t i)) → (K 53 (ST t j)).toInt ≤ CT t j := by
          intro B hB t j ⟨h1, h2, i, h3, h4⟩
          refine k5 t h1 i (by omega) ?_ j h3 h2
          rcases h4 with h4 | ⟨u, j2, h5, h6, h7⟩
          · rw [h4.1, g1.1]
            have := h4.2
            omega
          · have := hB u j2 h5
            rw [h6] at this
            omega
        have hrc : ∀ t j, rc NS ST CT GT (rD n day D) W F M (r + 1) t j → (K 53 (ST t j)).toInt ≤ CT t j := fun t j h => hstep _ g3 t j h
        have hcl : K 53 = J 53 → ∀ t j, RC NS ST CT GT (rD n day D) W F M t j → (K 53 (ST t j)).toInt ≤ CT t j := by
          intro hKJ t j ⟨k, hk⟩
          have : ∀ k t j, rc NS ST CT GT (rD n day D) W F M k t j → (J 53 (ST t j)).toInt ≤ CT t j := by
            intro k
            induction k with
            | zero => intro t j h; exact h.elim
            | succ k ih =>
              intro t j h
              rw [← hKJ]
              exact hstep _ ih t j h
          rw [hKJ]
          exact this k t j hk
        rw [nI_1]
        rcases k1 with ⟨q1, q2⟩ | q1
        · subst q1
          exact ok_some ⟨0, K, rfl, by omega, k2, fun a ha => (k3 a ha).trans (g2 a ha), hrc, fun _ => hcl q2⟩
        · subst q1
          exact ok_some ⟨1, K, rfl, by omega, k2, fun a ha => (k3 a ha).trans (g2 a ha), hrc, fun h => by omega⟩
    · obtain ⟨so, J, rfl, g0, g1, g2, g3, g4⟩ := hq
      have e1 : J 51 1 = nI n := by rw [g2 51 (by omega)]; exact hF.2.1
      refine ⟨.inr J, ?_, g1, g2, fun t j h => g3 t j (RC_n n NS ST CT GT (rD n day D) W F w h)⟩
      show cX6_soonestAt_27 N R 51 (nI T) (nI so) (nI n) J = _
      unfold cX6_soonestAt_27
      simp (disch := first | assumption | omega) only [obs, qle, ↓lm1, l0, qn_add, pk_mul, n_le, n_lt, n_eq, n_sM, n_Ms, n_Mlt, n_Mle, n_ltM, n_leM, ↓reduceIte, eq_self, if_pos, if_neg, qx, p0_0, p0_1, p0_2, p0_3, p2_0, p4_0, p4_1, p4_2, p4_3, p4_4, p4_5, p8_1, p8_5, p8_6, p8_7, p14_0, p14_4, p14_5, p18_1, p18_2, p51_4, p51_5, p51_8, p51_9, p51_10, p51_11, p51_12, p51_14, r3, w3, r6, w6, r7, w7, r9, w9, r10, w10, r11, w11, r12, w12, r15, w15, r16, w16, r17, w17, r19, w19, r20, w20, r53, w53, r54, w54, r55, w55, r56, w56, r57, w57, r58, w58, r59, w59, r60, w60, a1, a5, pt2, rt2, wt2, pt3, rt3, wt3, pt4, rt4, wt4, pt5, rt5, wt5, pm2, rm2, wm2, pm3, rm3, wm3, pm4, rm4, wm4, pm5, rm5, wm5, l1, l2, l3, l5, l6, l7, l8, l10, l11, l12, l31, l36, l63, l100, l1000, l1440, l1000000, l16777216, e1]
  · obtain ⟨g1, g2, g3⟩ := hJ
    refine ok_bindv (r53 hL hT) (ok_some ⟨?_, g2⟩)
    have hsnd := g1.2 T hT hTF
    rcases SN_or NS ST CT GT (rD n day D) W F M T with hno | ⟨v, hv⟩
    · left
      refine ⟨hno, ?_⟩
      rcases hsnd with q | ⟨t, j, q1, q2, q3⟩
      · exact nI_t q
      · exact absurd q2 (hno t j q1)
    · right
      refine ⟨v, hv, ?_⟩
      obtain ⟨⟨t0, j0, a1, a2, a3⟩, a4⟩ := id hv
      have hle := g3 t0 j0 a1
      rw [a2, a3] at hle
      rcases hsnd with q | ⟨t, j, q1, q2, q3⟩
      · obtain ⟨r1, r2, _⟩ := (RC_iff NS ST CT GT (rD n day D) W F).mp a1
        have := (w.2.2.2.2 t0 r1.1).2.1 j0 r2
        omega
      · have := a4 t j q1 q2
        show J 53 T = nI v
        exact nI_t (by omega)
end SOON
