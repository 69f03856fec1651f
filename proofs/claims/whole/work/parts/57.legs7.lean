/-! THE CLASS'S LEGS -/
theorem nP_lt {m i : Nat} (hm : m < 2147483648) (hi : i < 2147483648) : (nP m < nI i) ↔ m ≤ i := by
  cases m with
  | zero => rw [show nP 0 = nM from rfl, n_Mlt hi]; exact ⟨fun _ => Nat.zero_le _, fun _ => trivial⟩
  | succ m => rw [show nP (m + 1) = nI m from rfl, n_lt (by omega) hi]; omega
theorem nP_le0 {m : Nat} (hm : m < 2147483648) : (nP m ≤ nI 0) ↔ m ≤ 1 := by
  cases m with
  | zero => rw [show nP 0 = nM from rfl, n_Mle (by omega)]; exact ⟨fun _ => by omega, fun _ => trivial⟩
  | succ m => rw [show nP (m + 1) = nI m from rfl, n_le (by omega) (by omega)]; omega
section LEGS7
variable {n : Nat} {NS : Nat → Nat} {ST CT GT : Nat → Nat → Nat} {D : Nat → Nat} {W F day T v M N : Nat} {R : qR}
theorem stopAt7 {I : qI} {t s : Nat} (hK : BK I NS ST CT GT) (ht : t < 10) (hs : s < 12) : (∃ i, i < NS t ∧ ST t i = s ∧ I (61 + 5 * t + 4) s = nI i) ∨ ((∀ i, i < NS t → ST t i ≠ s) ∧ I (61 + 5 * t + 4) s = nM) := by
  obtain ⟨z1, z2, z3, z4, z5, z6⟩ := hK t ht
  by_cases h : ∃ i, i < NS t ∧ ST t i = s
  · obtain ⟨i, h1, h2⟩ := h
    exact Or.inl ⟨i, h1, h2, by rw [← h2]; exact (z4 i h1).2.2.2.2.2⟩
  · exact Or.inr ⟨fun i h1 h2 => h ⟨i, h1, h2⟩, z6 s hs (fun i h1 h2 => h ⟨i, h1, h2⟩)⟩
theorem canCh {I : qI} {t j u m : Nat} (hL : LR R) (w : wb n NS ST CT GT (rD n day D) W F) (hF : FPx R I n NS ST CT GT D W day) (ht : t < n) (hj : j < NS t) (hu : u < n) (hm : m < 100) : fX6_canChange R I 51 (61 + 5 * t) (nI j) (61 + 5 * u) (nP m) = some (nI (ind (∃ i, i < NS u ∧ cc ST CT GT W t j u i ∧ i < m))) := by
  have hn10 := w.1
  have hW := w.2.1
  obtain ⟨p0, p1, p2, p3, p4, p5, p6⟩ := hF
  obtain ⟨z1, z2, z3, z4, z5, z6⟩ := p5 t (by omega)
  obtain ⟨a1, a2, a3, a4, a5, a6⟩ := z4 j hj
  have s12 := a1.2.2
  have ht10 : t < 10 := by omega
  have hu10 : u < 10 := by omega
  have hu7 := (p5 u hu10).1
  unfold fX6_canChange
  rcases stopAt7 p5 hu10 s12 with ⟨i, h1, h2, h3⟩ | ⟨h1, h2⟩
  · obtain ⟨b1, b2, b3, b4, b5, b6⟩ := (p5 u hu10).2.2.2.1 i h1
    have huq : ∀ i2, i2 < NS u → ST t j = ST u i2 → i2 = i := fun i2 q1 q2 => (w.2.2.2.2 u hu).2.2.2 i2 i q1 h1 (by omega)
    by_cases hlim : m ≤ i
    · have hc : nP m < nI i := (nP_lt (by omega) (by omega)).mpr hlim
      rw [ind_f (fun ⟨i2, q1, q2, q3⟩ => by have := huq i2 q1 q2.1; omega)]
      simp (disch := first | assumption | omega) only [obs, qle, ↓lm1, l0, qn_add, pk_mul, n_le, n_lt, n_eq, n_sM, n_Ms, n_Mlt, n_Mle, n_ltM, n_leM, ↓reduceIte, eq_self, if_pos, if_neg, qx, p0_0, p0_1, p0_2, p0_3, p2_0, p4_0, p4_1, p4_2, p4_3, p4_4, p4_5, p8_1, p8_5, p8_6, p8_7, p14_0, p14_4, p14_5, p18_1, p18_2, p51_4, p51_5, p51_8, p51_9, p51_10, p51_11, p51_12, p51_14, r3, w3, r6, w6, r7, w7, r9, w9, r10, w10, r11, w11, r12, w12, r15, w15, r16, w16, r17, w17, r19, w19, r20, w20, r53, w53, r54, w54, r55, w55, r56, w56, r57, w57, r58, w58, r59, w59, r60, w60, a1, a5, pt2, rt2, wt2, pt3, rt3, wt3, pt4, rt4, wt4, pt5, rt5, wt5, pm2, rm2, wm2, pm3, rm3, wm3, pm4, rm4, wm4, pm5, rm5, wm5, l1, l2, l3, l5, l6, l7, l8, l10, l11, l12, l31, l36, l63, l100, l1000, l1440, l1000000, l16777216, a1.2.1, h3, hc]
    · have hc : ¬ nP m < nI i := fun q => hlim ((nP_lt (by omega) (by omega)).mp q)
      by_cases hg : CT t j + W ≤ GT u i
      · rw [ind_t ⟨i, h1, ⟨h2.symm, hg⟩, by omega⟩]
        simp (disch := first | assumption | omega) only [obs, qle, ↓lm1, l0, qn_add, pk_mul, n_le, n_lt, n_eq, n_sM, n_Ms, n_Mlt, n_Mle, n_ltM, n_leM, ↓reduceIte, eq_self, if_pos, if_neg, qx, p0_0, p0_1, p0_2, p0_3, p2_0, p4_0, p4_1, p4_2, p4_3, p4_4, p4_5, p8_1, p8_5, p8_6, p8_7, p14_0, p14_4, p14_5, p18_1, p18_2, p51_4, p51_5, p51_8, p51_9, p51_10, p51_11, p51_12, p51_14, r3, w3, r6, w6, r7, w7, r9, w9, r10, w10, r11, w11, r12, w12, r15, w15, r16, w16, r17, w17, r19, w19, r20, w20, r53, w53, r54, w54, r55, w55, r56, w56, r57, w57, r58, w58, r59, w59, r60, w60, a1, a5, pt2, rt2, wt2, pt3, rt3, wt3, pt4, rt4, wt4, pt5, rt5, wt5, pm2, rm2, wm2, pm3, rm3, wm3, pm4, rm4, wm4, pm5, rm5, wm5, l1, l2, l3, l5, l6, l7, l8, l10, l11, l12, l31, l36, l63, l100, l1000, l1440, l1000000, l16777216, a1.2.1, h3, hc, b3.2, a2.2, p3]
      · rw [ind_f (fun ⟨i2, q1, q2, q3⟩ => by have := huq i2 q1 q2.1; subst this; exact hg q2.2)]
        simp (disch := first | assumption | omega) only [obs, qle, ↓lm1, l0, qn_add, pk_mul, n_le, n_lt, n_eq, n_sM, n_Ms, n_Mlt, n_Mle, n_ltM, n_leM, ↓reduceIte, eq_self, if_pos, if_neg, qx, p0_0, p0_1, p0_2, p0_3, p2_0, p4_0, p4_1, p4_2, p4_3, p4_4, p4_5, p8_1, p8_5, p8_6, p8_7, p14_0, p14_4, p14_5, p18_1, p18_2, p51_4, p51_5, p51_8, p51_9, p51_10, p51_11, p51_12, p51_14, r3, w3, r6, w6, r7, w7, r9, w9, r10, w10, r11, w11, r12, w12, r15, w15, r16, w16, r17, w17, r19, w19, r20, w20, r53, w53, r54, w54, r55, w55, r56, w56, r57, w57, r58, w58, r59, w59, r60, w60, a1, a5, pt2, rt2, wt2, pt3, rt3, wt3, pt4, rt4, wt4, pt5, rt5, wt5, pm2, rm2, wm2, pm3, rm3, wm3, pm4, rm4, wm4, pm5, rm5, wm5, l1, l2, l3, l5, l6, l7, l8, l10, l11, l12, l31, l36, l63, l100, l1000, l1440, l1000000, l16777216, a1.2.1, h3, hc, b3.2, a2.2, p3]
  · rw [ind_f (fun ⟨i2, q1, q2, q3⟩ => h1 i2 q1 q2.1.symm)]
    simp (disch := first | assumption | omega) only [obs, qle, ↓lm1, l0, qn_add, pk_mul, n_le, n_lt, n_eq, n_sM, n_Ms, n_Mlt, n_Mle, n_ltM, n_leM, ↓reduceIte, eq_self, if_pos, if_neg, qx, p0_0, p0_1, p0_2, p0_3, p2_0, p4_0, p4_1, p4_2, p4_3, p4_4, p4_5, p8_1, p8_5, p8_6, p8_7, p14_0, p14_4, p14_5, p18_1, p18_2, p51_4, p51_5, p51_8, p51_9, p51_10, p51_11, p51_12, p51_14, r3, w3, r6, w6, r7, w7, r9, w9, r10, w10, r11, w11, r12, w12, r15, w15, r16, w16, r17, w17, r19, w19, r20, w20, r53, w53, r54, w54, r55, w55, r56, w56, r57, w57, r58, w58, r59, w59, r60, w60, a1, a5, pt2, rt2, wt2, pt3, rt3, wt3, pt4, rt4, wt4, pt5, rt5, wt5, pm2, rm2, wm2, pm3, rm3, wm3, pm4, rm4, wm4, pm5, rm5, wm5, l1, l2, l3, l5, l6, l7, l8, l10, l11, l12, l31, l36, l63, l100, l1000, l1440, l1000000, l16777216, a1.2.1, h2]
def LB (n : Nat) (NS : Nat → Nat) (ST CT GT : Nat → Nat → Nat) (D : Nat → Nat) (W day T v K : Nat) (I : qI) : Prop := ∀ k t, k < K → t < n → ∃ m, I 54 (k * 10 + t) = nP m ∧ isMx NS ST CT GT (rD n day D) W T v k t m ∧ m < 8
theorem mx_none {k t : Nat} (h : ¬ rD n day D t) : isMx NS ST CT GT (rD n day D) W T v k t 0 := Or.inl ⟨rfl, fun j q => h (gw_ok NS ST CT GT (rD n day D) W T v q).1⟩
theorem boardTo_ok {I : qI} {t : Nat} (hL : LR R) (w : wb n NS ST CT GT (rD n day D) W F) (hF : FPx R I n NS ST CT GT D W day) (hv : I 51 6 = nI v) (hv2 : v < 1440) (hT : T < 12) (ht : rD n day D t) : ∃ m, fX6_lastBoardTo R I 51 (61 + 5 * t) (nI T) = some (nP m) ∧ isMx NS ST CT GT (rD n day D) W T v 0 t m ∧ m < 8 := by
  have hn10 := w.1
  obtain ⟨p0, p1, p2, p3, p4, p5, p6⟩ := hF
  have ht10 : t < 10 := by have := ht.1; omega
  obtain ⟨z1, z2, z3, z4, z5, z6⟩ := p5 t ht10
  unfold fX6_lastBoardTo
  rcases stopAt7 p5 ht10 hT with ⟨i, h1, h2, h3⟩ | ⟨h1, h2⟩
  · have huq : ∀ i2, i2 < NS t → ST t i2 = T → i2 = i := fun i2 q1 q2 => (w.2.2.2.2 t ht.1).2.2.2 i2 i q1 h1 (by omega)
    obtain ⟨b1, b2, b3, b4, b5, b6⟩ := z4 i h1
    by_cases h0 : i = 0
    · subst h0
      refine ⟨0, ?_, Or.inl ⟨rfl, fun j q => ?_⟩, by omega⟩
      · simp (disch := first | assumption | omega) only [obs, qle, ↓lm1, l0, qn_add, pk_mul, n_le, n_lt, n_eq, n_sM, n_Ms, n_Mlt, n_Mle, n_ltM, n_leM, ↓reduceIte, eq_self, if_pos, if_neg, qx, p0_0, p0_1, p0_2, p0_3, p2_0, p4_0, p4_1, p4_2, p4_3, p4_4, p4_5, p8_1, p8_5, p8_6, p8_7, p14_0, p14_4, p14_5, p18_1, p18_2, p51_4, p51_5, p51_8, p51_9, p51_10, p51_11, p51_12, p51_14, r3, w3, r6, w6, r7, w7, r9, w9, r10, w10, r11, w11, r12, w12, r15, w15, r16, w16, r17, w17, r19, w19, r20, w20, r53, w53, r54, w54, r55, w55, r56, w56, r57, w57, r58, w58, r59, w59, r60, w60, a1, a5, pt2, rt2, wt2, pt3, rt3, wt3, pt4, rt4, wt4, pt5, rt5, wt5, pm2, rm2, wm2, pm3, rm3, wm3, pm4, rm4, wm4, pm5, rm5, wm5, l1, l2, l3, l5, l6, l7, l8, l10, l11, l12, l31, l36, l63, l100, l1000, l1440, l1000000, l16777216, h3]
        rfl
      · have := huq j q.2.2.1 q.2.2.2.1
        have := q.2.1
        omega
    · by_cases hc : CT t i = v
      · refine ⟨i, ?_, Or.inr ⟨⟨ht, by omega, h1, h2, hc⟩, fun j q => ?_⟩, by omega⟩
        · simp (disch := first | assumption | omega) only [obs, qle, ↓lm1, l0, qn_add, pk_mul, n_le, n_lt, n_eq, n_sM, n_Ms, n_Mlt, n_Mle, n_ltM, n_leM, ↓reduceIte, eq_self, if_pos, if_neg, qx, p0_0, p0_1, p0_2, p0_3, p2_0, p4_0, p4_1, p4_2, p4_3, p4_4, p4_5, p8_1, p8_5, p8_6, p8_7, p14_0, p14_4, p14_5, p18_1, p18_2, p51_4, p51_5, p51_8, p51_9, p51_10, p51_11, p51_12, p51_14, r3, w3, r6, w6, r7, w7, r9, w9, r10, w10, r11, w11, r12, w12, r15, w15, r16, w16, r17, w17, r19, w19, r20, w20, r53, w53, r54, w54, r55, w55, r56, w56, r57, w57, r58, w58, r59, w59, r60, w60, a1, a5, pt2, rt2, wt2, pt3, rt3, wt3, pt4, rt4, wt4, pt5, rt5, wt5, pm2, rm2, wm2, pm3, rm3, wm3, pm4, rm4, wm4, pm5, rm5, wm5, l1, l2, l3, l5, l6, l7, l8, l10, l11, l12, l31, l36, l63, l100, l1000, l1440, l1000000, l16777216, h3, b2.2, hv, nP_sub]
        · have := huq j q.2.2.1 q.2.2.2.1
          omega
      · refine ⟨0, ?_, Or.inl ⟨rfl, fun j q => ?_⟩, by omega⟩
        · simp (disch := first | assumption | omega) only [obs, qle, ↓lm1, l0, qn_add, pk_mul, n_le, n_lt, n_eq, n_sM, n_Ms, n_Mlt, n_Mle, n_ltM, n_leM, ↓reduceIte, eq_self, if_pos, if_neg, qx, p0_0, p0_1, p0_2, p0_3, p2_0, p4_0, p4_1, p4_2, p4_3, p4_4, p4_5, p8_1, p8_5, p8_6, p8_7, p14_0, p14_4, p14_5, p18_1, p18_2, p51_4, p51_5, p51_8, p51_9, p51_10, p51_11, p51_12, p51_14, r3, w3, r6, w6, r7, w7, r9, w9, r10, w10, r11, w11, r12, w12, r15, w15, r16, w16, r17, w17, r19, w19, r20, w20, r53, w53, r54, w54, r55, w55, r56, w56, r57, w57, r58, w58, r59, w59, r60, w60, a1, a5, pt2, rt2, wt2, pt3, rt3, wt3, pt4, rt4, wt4, pt5, rt5, wt5, pm2, rm2, wm2, pm3, rm3, wm3, pm4, rm4, wm4, pm5, rm5, wm5, l1, l2, l3, l5, l6, l7, l8, l10, l11, l12, l31, l36, l63, l100, l1000, l1440, l1000000, l16777216, h3, b2.2, hv]
          rfl
        · have := huq j q.2.2.1 q.2.2.2.1
          subst this
          exact hc q.2.2.2.2
  · refine ⟨0, ?_, Or.inl ⟨rfl, fun j q => h1 j q.2.2.1 q.2.2.2.1⟩, by omega⟩
    simp (disch := first | assumption | omega) only [obs, qle, ↓lm1, l0, qn_add, pk_mul, n_le, n_lt, n_eq, n_sM, n_Ms, n_Mlt, n_Mle, n_ltM, n_leM, ↓reduceIte, eq_self, if_pos, if_neg, qx, p0_0, p0_1, p0_2, p0_3, p2_0, p4_0, p4_1, p4_2, p4_3, p4_4, p4_5, p8_1, p8_5, p8_6, p8_7, p14_0, p14_4, p14_5, p18_1, p18_2, p51_4, p51_5, p51_8, p51_9, p51_10, p51_11, p51_12, p51_14, r3, w3, r6, w6, r7, w7, r9, w9, r10, w10, r11, w11, r12, w12, r15, w15, r16, w16, r17, w17, r19, w19, r20, w20, r53, w53, r54, w54, r55, w55, r56, w56, r57, w57, r58, w58, r59, w59, r60, w60, a1, a5, pt2, rt2, wt2, pt3, rt3, wt3, pt4, rt4, wt4, pt5, rt5, wt5, pm2, rm2, wm2, pm3, rm3, wm3, pm4, rm4, wm4, pm5, rm5, wm5, l1, l2, l3, l5, l6, l7, l8, l10, l11, l12, l31, l36, l63, l100, l1000, l1440, l1000000, l16777216, h2]
    rfl
theorem boardBefore_ok {I : qI} {t k : Nat} (hN : 300000 ≤ N) (hL : LR R) (w : wb n NS ST CT GT (rD n day D) W F) (hF : FPx R I n NS ST CT GT D W day) (hB : LB n NS ST CT GT D W day T v (k + 1) I) (hk : k < 9) (ht : rD n day D t) : ∃ m, fX6_lastBoardBefore N R I 51 (61 + 5 * t) (nI k) = some (nP m) ∧ isMx NS ST CT GT (rD n day D) W T v (k + 1) t m ∧ m < 8 := by
  have hn10 := w.1
  obtain ⟨p0, p1, p2, p3, p4, p5, p6⟩ := id hF
  have ht10 : t < 10 := by have := ht.1; omega
  obtain ⟨z1, z2, z3, z4, z5, z6⟩ := p5 t ht10
  have hgw : ∀ j, gw NS ST CT GT (rD n day D) W T v (k + 1) t j ↔ 1 ≤ j ∧ j < NS t ∧ ∃ u, u < n ∧ ∃ i, cc ST CT GT W t j u i ∧ hw NS ST CT GT (rD n day D) W T v k u i := fun j => by
    rw [gw_succ]
    constructor
    · rintro ⟨_, a2, a3, u, i, a4, j2, a5, a6⟩
      exact ⟨a2, a3, u, (gw_ok NS ST CT GT (rD n day D) W T v a6).1.1, i, a4, j2, a5, a6⟩
    · rintro ⟨a2, a3, u, _, i, a4, a5⟩
      exact ⟨ht, a2, a3, u, i, a4, a5⟩
  have key : ok (fX6_lastBoardBefore N R I 51 (61 + 5 * t) (nI k)) (fun r => ∃ m, r = nP m ∧ isMx NS ST CT GT (rD n day D) W T v (k + 1) t m ∧ m < 8) := by
    unfold fX6_lastBoardBefore
    rw [z3, l1, nP_sub]
    refine ok_bind (ok_mono (P := fun o => match o with
      | .inl _ => ∀ j, ¬ gw NS ST CT GT (rD n day D) W T v (k + 1) t j
      | .inr r => ∃ m, r = nP m ∧ isMx NS ST CT GT (rD n day D) W T v (k + 1) t m ∧ m < 8) ?_ (fun o ho => ?_))
    · refine ok_for (fun x q => ∃ p, p + x = NS t ∧ q = nP p ∧ ∀ j, p ≤ j → ¬ gw NS ST CT GT (rD n day D) W T v (k + 1) t j) (NS t) (by omega) ⟨NS t, by omega, rfl, fun j hj q => by have := ((hgw j).mp q).2.1; omega⟩ (fun x q hx hq => ?_) (fun q hq => ?_)
      · obtain ⟨p, g0, rfl, g1⟩ := hq
        show ok (cX6_lastBoardBefore_7 N R I 51 (61 + 5 * t) (nI k) (nP p)) _
        unfold cX6_lastBoardBefore_7
        rw [l0]
        by_cases hp : p ≤ 1
        · rw [if_pos ((nP_le0 (by omega)).mpr hp)]
          refine ok_some (fun j q => ?_)
          have := ((hgw j).mp q).1
          exact g1 j (by omega) q
        · rw [if_neg (fun q => hp ((nP_le0 (by omega)).mp q))]
          obtain ⟨j, rfl⟩ : ∃ j, p = j + 1 := ⟨p - 1, by omega⟩
          show ok ((qloop (fun s => cX6_lastBoardBefore_14 N R I 51 (61 + 5 * t) (nI k) (nI j) s) N (nI 0)).bind _) _
          refine ok_bind (ok_mono (P := fun o => match o with
            | .inl _ => ¬ gw NS ST CT GT (rD n day D) W T v (k + 1) t j
            | .inr r => gw NS ST CT GT (rD n day D) W T v (k + 1) t j ∧ r = nP j) ?_ (fun o ho => ?_))
          · refine ok_for (fun u q => q = nI u ∧ ¬ ∃ u2, u2 < u ∧ ∃ i, cc ST CT GT W t j u2 i ∧ hw NS ST CT GT (rD n day D) W T v k u2 i) n (by omega) ⟨rfl, fun ⟨u2, h, _⟩ => by omega⟩ (fun u q hu hq => ?_) (fun q hq => ?_)
            · obtain ⟨rfl, f1⟩ := hq
              obtain ⟨m, m1, m2, m3⟩ := hB k u (by omega) hu
              have cch := canCh (R := R) (j := j) hL w hF ht.1 (by omega) hu (show m < 100 by omega)
              have hu10 : u < 10 := by omega
              have iff1 : (∃ i, i < NS u ∧ cc ST CT GT W t j u i ∧ i < m) ↔ ∃ i, cc ST CT GT W t j u i ∧ hw NS ST CT GT (rD n day D) W T v k u i := by
                constructor
                · rintro ⟨i, q1, q2, q3⟩
                  exact ⟨i, q2, (hw_iff NS ST CT GT (rD n day D) W T v m2).mpr q3⟩
                · rintro ⟨i, q2, q3⟩
                  have q4 := (hw_iff NS ST CT GT (rD n day D) W T v m2).mp q3
                  have := mx_lt NS ST CT GT (rD n day D) W T v m2
                  exact ⟨i, by omega, q2, q4⟩
              by_cases hx2 : ∃ i, i < NS u ∧ cc ST CT GT W t j u i ∧ i < m
              · rw [ind_t hx2] at cch
                refine ⟨.inr (.inr (nP j)), ?_, (hgw j).mpr ⟨by omega, by omega, u, hu, iff1.mp hx2⟩, rfl⟩
                show cX6_lastBoardBefore_14 N R I 51 (61 + 5 * t) (nI k) (nI j) (nI u) = _
                unfold cX6_lastBoardBefore_14
                simp (disch := first | assumption | omega) only [obs, qle, ↓lm1, l0, qn_add, pk_mul, n_le, n_lt, n_eq, n_sM, n_Ms, n_Mlt, n_Mle, n_ltM, n_leM, ↓reduceIte, eq_self, if_pos, if_neg, qx, p0_0, p0_1, p0_2, p0_3, p2_0, p4_0, p4_1, p4_2, p4_3, p4_4, p4_5, p8_1, p8_5, p8_6, p8_7, p14_0, p14_4, p14_5, p18_1, p18_2, p51_4, p51_5, p51_8, p51_9, p51_10, p51_11, p51_12, p51_14, r3, w3, r6, w6, r7, w7, r9, w9, r10, w10, r11, w11, r12, w12, r15, w15, r16, w16, r17, w17, r19, w19, r20, w20, r53, w53, r54, w54, r55, w55, r56, w56, r57, w57, r58, w58, r59, w59, r60, w60, a1, a5, pt2, rt2, wt2, pt3, rt3, wt3, pt4, rt4, wt4, pt5, rt5, wt5, pm2, rm2, wm2, pm3, rm3, wm3, pm4, rm4, wm4, pm5, rm5, wm5, l1, l2, l3, l5, l6, l7, l8, l10, l11, l12, l31, l36, l63, l100, l1000, l1440, l1000000, l16777216, p0, p1, m1, cch, nP_sub]
              · rw [ind_f hx2] at cch
                refine ⟨.inl (nI (u + 1)), ?_, rfl, fun ⟨u2, a1, a2⟩ => ?_⟩
                · show cX6_lastBoardBefore_14 N R I 51 (61 + 5 * t) (nI k) (nI j) (nI u) = _
                  unfold cX6_lastBoardBefore_14
                  simp (disch := first | assumption | omega) only [obs, qle, ↓lm1, l0, qn_add, pk_mul, n_le, n_lt, n_eq, n_sM, n_Ms, n_Mlt, n_Mle, n_ltM, n_leM, ↓reduceIte, eq_self, if_pos, if_neg, qx, p0_0, p0_1, p0_2, p0_3, p2_0, p4_0, p4_1, p4_2, p4_3, p4_4, p4_5, p8_1, p8_5, p8_6, p8_7, p14_0, p14_4, p14_5, p18_1, p18_2, p51_4, p51_5, p51_8, p51_9, p51_10, p51_11, p51_12, p51_14, r3, w3, r6, w6, r7, w7, r9, w9, r10, w10, r11, w11, r12, w12, r15, w15, r16, w16, r17, w17, r19, w19, r20, w20, r53, w53, r54, w54, r55, w55, r56, w56, r57, w57, r58, w58, r59, w59, r60, w60, a1, a5, pt2, rt2, wt2, pt3, rt3, wt3, pt4, rt4, wt4, pt5, rt5, wt5, pm2, rm2, wm2, pm3, rm3, wm3, pm4, rm4, wm4, pm5, rm5, wm5, l1, l2, l3, l5, l6, l7, l8, l10, l11, l12, l31, l36, l63, l100, l1000, l1440, l1000000, l16777216, p0, p1, m1, cch]
                · by_cases e : u2 = u
                  · subst e; exact hx2 (iff1.mpr a2)
                  · exact f1 ⟨u2, by omega, a2⟩
            · obtain ⟨rfl, f1⟩ := hq
              refine ⟨.inr (.inl ()), ?_, fun q => f1 ((hgw j).mp q).2.2⟩
              show cX6_lastBoardBefore_14 N R I 51 (61 + 5 * t) (nI k) (nI j) (nI n) = _
              unfold cX6_lastBoardBefore_14
              simp (disch := first | assumption | omega) only [obs, qle, ↓lm1, l0, qn_add, pk_mul, n_le, n_lt, n_eq, n_sM, n_Ms, n_Mlt, n_Mle, n_ltM, n_leM, ↓reduceIte, eq_self, if_pos, if_neg, qx, p0_0, p0_1, p0_2, p0_3, p2_0, p4_0, p4_1, p4_2, p4_3, p4_4, p4_5, p8_1, p8_5, p8_6, p8_7, p14_0, p14_4, p14_5, p18_1, p18_2, p51_4, p51_5, p51_8, p51_9, p51_10, p51_11, p51_12, p51_14, r3, w3, r6, w6, r7, w7, r9, w9, r10, w10, r11, w11, r12, w12, r15, w15, r16, w16, r17, w17, r19, w19, r20, w20, r53, w53, r54, w54, r55, w55, r56, w56, r57, w57, r58, w58, r59, w59, r60, w60, a1, a5, pt2, rt2, wt2, pt3, rt3, wt3, pt4, rt4, wt4, pt5, rt5, wt5, pm2, rm2, wm2, pm3, rm3, wm3, pm4, rm4, wm4, pm5, rm5, wm5, l1, l2, l3, l5, l6, l7, l8, l10, l11, l12, l31, l36, l63, l100, l1000, l1440, l1000000, l16777216, p1]
          · cases o with
            | inl _ =>
              have ho2 : ¬ gw NS ST CT GT (rD n day D) W T v (k + 1) t j := ho
              show ok (some (Sum.inl (nI j + (-1)) : Int32 ⊕ (Unit ⊕ Int32))) _
              rw [lm1, nP_dec]
              refine ok_some ⟨j, by omega, rfl, fun j2 hj2 => ?_⟩
              by_cases e : j2 = j
              · subst e; exact ho2
              · exact g1 j2 (by omega)
            | inr r =>
              obtain ⟨h1, rfl⟩ := ho
              exact ok_some ⟨j, rfl, Or.inr ⟨h1, fun j2 hj2 => Classical.byContradiction (fun q => g1 j2 (by omega) hj2)⟩, by omega⟩
      · obtain ⟨p, g0, rfl, g1⟩ := hq
        obtain rfl : p = 0 := by omega
        refine ⟨.inr (.inl ()), ?_, fun j => g1 j (by omega)⟩
        show cX6_lastBoardBefore_7 N R I 51 (61 + 5 * t) (nI k) (nP 0) = _
        unfold cX6_lastBoardBefore_7
        rw [l0, if_pos ((nP_le0 (by omega)).mpr (by omega))]
    · cases o with
      | inl _ => exact ok_some ⟨0, by show (-1 : Int32) = nM; rw [lm1], Or.inl ⟨rfl, ho⟩, by omega⟩
      | inr r => exact ok_some ho
  obtain ⟨r, e, m, rfl, h1⟩ := key
  exact ⟨m, e, h1⟩
/-- the first train, or none -/
theorem firstTrain7_ok {I : qI} {L : Nat} (hN : 300000 ≤ N) (hL : LR R) (w : wb n NS ST CT GT (rD n day D) W F) (hF : FPx R I n NS ST CT GT D W day) (hB : LB n NS ST CT GT D W day T v L I) (h7 : I 51 7 = nI L) (hL0 : 0 < L) (hL10 : L ≤ 10) (hM : M ≤ 1440) : ok (fX6_firstTrain N R I 51 (nI F) (nI M)) (fun r => (r = nM ∧ ∀ t, ¬ ft NS ST CT GT (rD n day D) W F T v M (L - 1) t) ∨ ∃ t, r = nI t ∧ t < n ∧ ft NS ST CT GT (rD n day D) W F T v M (L - 1) t ∧ ∀ t2, t2 < t → ¬ ft NS ST CT GT (rD n day D) W F T v M (L - 1) t2) := by
  have hn10 := w.1
  have hF12 := w.2.2.1
  obtain ⟨p0, p1, p2, p3, p4, p5, p6⟩ := id hF
  have hftn : ∀ t, ft NS ST CT GT (rD n day D) W F T v M (L - 1) t → t < n := fun t ⟨i, _, _, j, _, h⟩ => (gw_ok NS ST CT GT (rD n day D) W T v h).1.1
  unfold fX6_firstTrain
  rw [l0]
  refine ok_bind (ok_mono (P := fun o => match o with
    | .inl _ => ∀ t, ¬ ft NS ST CT GT (rD n day D) W F T v M (L - 1) t
    | .inr r => ∃ t, r = nI t ∧ t < n ∧ ft NS ST CT GT (rD n day D) W F T v M (L - 1) t ∧ ∀ t2, t2 < t → ¬ ft NS ST CT GT (rD n day D) W F T v M (L - 1) t2) ?_ (fun o ho => ?_))
  · refine ok_for (fun t q => q = nI t ∧ ∀ t2, t2 < t → ¬ ft NS ST CT GT (rD n day D) W F T v M (L - 1) t2) n (by omega) ⟨rfl, fun t h => by omega⟩ (fun t q ht hq => ?_) (fun q hq => ?_)
    · obtain ⟨rfl, g1⟩ := hq
      have ht10 : t < 10 := by omega
      obtain ⟨m, m1, m2, m3⟩ := hB (L - 1) t (by omega) ht
      have hns := (p5 t ht10).1
      have step : ¬ ft NS ST CT GT (rD n day D) W F T v M (L - 1) t → ∀ t2, t2 < t + 1 → ¬ ft NS ST CT GT (rD n day D) W F T v M (L - 1) t2 := fun h t2 h2 => by
        by_cases e : t2 = t
        · subst e; exact h
        · exact g1 t2 (by omega)
      rcases stopAt7 p5 ht10 hF12 with ⟨i, h1, h2, h3⟩ | ⟨h1, h2⟩
      · obtain ⟨b1, b2, b3, b4, b5, b6⟩ := (p5 t ht10).2.2.2.1 i h1
        have hft : ft NS ST CT GT (rD n day D) W F T v M (L - 1) t ↔ M ≤ GT t i ∧ i < m := by
          constructor
          · rintro ⟨i2, q1, q2, q3⟩
            have : i2 = i := (w.2.2.2.2 t ht).2.2.2 i2 i q1 h1 (by rw [q2.1, h2])
            subst this
            exact ⟨q2.2, (hw_iff NS ST CT GT (rD n day D) W T v m2).mp q3⟩
          · rintro ⟨q1, q2⟩
            exact ⟨i, h1, ⟨h2, q1⟩, (hw_iff NS ST CT GT (rD n day D) W T v m2).mpr q2⟩
        by_cases hlim : m ≤ i
        · have hc : nP m < nI i := (nP_lt (by omega) (by omega)).mpr hlim
          refine ⟨.inl (nI (t + 1)), ?_, rfl, step (fun q => by have := (hft.mp q).2; omega)⟩
          show cX6_firstTrain_2 N R I 51 (nI F) (nI M) (nI t) = _
          unfold cX6_firstTrain_2
          simp (disch := first | assumption | omega) only [obs, qle, ↓lm1, l0, qn_add, pk_mul, n_le, n_lt, n_eq, n_sM, n_Ms, n_Mlt, n_Mle, n_ltM, n_leM, ↓reduceIte, eq_self, if_pos, if_neg, qx, p0_0, p0_1, p0_2, p0_3, p2_0, p4_0, p4_1, p4_2, p4_3, p4_4, p4_5, p8_1, p8_5, p8_6, p8_7, p14_0, p14_4, p14_5, p18_1, p18_2, p51_4, p51_5, p51_8, p51_9, p51_10, p51_11, p51_12, p51_14, r3, w3, r6, w6, r7, w7, r9, w9, r10, w10, r11, w11, r12, w12, r15, w15, r16, w16, r17, w17, r19, w19, r20, w20, r53, w53, r54, w54, r55, w55, r56, w56, r57, w57, r58, w58, r59, w59, r60, w60, a1, a5, pt2, rt2, wt2, pt3, rt3, wt3, pt4, rt4, wt4, pt5, rt5, wt5, pm2, rm2, wm2, pm3, rm3, wm3, pm4, rm4, wm4, pm5, rm5, wm5, l1, l2, l3, l5, l6, l7, l8, l10, l11, l12, l31, l36, l63, l100, l1000, l1440, l1000000, l16777216, p0, p1, h3, h7, qn_sub, m1, hc]
        · have hc : ¬ nP m < nI i := fun q => hlim ((nP_lt (by omega) (by omega)).mp q)
          by_cases hg : M ≤ GT t i
          · refine ⟨.inr (.inr (nI t)), ?_, t, rfl, ht, hft.mpr ⟨hg, by omega⟩, g1⟩
            show cX6_firstTrain_2 N R I 51 (nI F) (nI M) (nI t) = _
            unfold cX6_firstTrain_2
            simp (disch := first | assumption | omega) only [obs, qle, ↓lm1, l0, qn_add, pk_mul, n_le, n_lt, n_eq, n_sM, n_Ms, n_Mlt, n_Mle, n_ltM, n_leM, ↓reduceIte, eq_self, if_pos, if_neg, qx, p0_0, p0_1, p0_2, p0_3, p2_0, p4_0, p4_1, p4_2, p4_3, p4_4, p4_5, p8_1, p8_5, p8_6, p8_7, p14_0, p14_4, p14_5, p18_1, p18_2, p51_4, p51_5, p51_8, p51_9, p51_10, p51_11, p51_12, p51_14, r3, w3, r6, w6, r7, w7, r9, w9, r10, w10, r11, w11, r12, w12, r15, w15, r16, w16, r17, w17, r19, w19, r20, w20, r53, w53, r54, w54, r55, w55, r56, w56, r57, w57, r58, w58, r59, w59, r60, w60, a1, a5, pt2, rt2, wt2, pt3, rt3, wt3, pt4, rt4, wt4, pt5, rt5, wt5, pm2, rm2, wm2, pm3, rm3, wm3, pm4, rm4, wm4, pm5, rm5, wm5, l1, l2, l3, l5, l6, l7, l8, l10, l11, l12, l31, l36, l63, l100, l1000, l1440, l1000000, l16777216, p0, p1, h3, h7, qn_sub, m1, hc, b3.2]
          · refine ⟨.inl (nI (t + 1)), ?_, rfl, step (fun q => hg (hft.mp q).1)⟩
            show cX6_firstTrain_2 N R I 51 (nI F) (nI M) (nI t) = _
            unfold cX6_firstTrain_2
            simp (disch := first | assumption | omega) only [obs, qle, ↓lm1, l0, qn_add, pk_mul, n_le, n_lt, n_eq, n_sM, n_Ms, n_Mlt, n_Mle, n_ltM, n_leM, ↓reduceIte, eq_self, if_pos, if_neg, qx, p0_0, p0_1, p0_2, p0_3, p2_0, p4_0, p4_1, p4_2, p4_3, p4_4, p4_5, p8_1, p8_5, p8_6, p8_7, p14_0, p14_4, p14_5, p18_1, p18_2, p51_4, p51_5, p51_8, p51_9, p51_10, p51_11, p51_12, p51_14, r3, w3, r6, w6, r7, w7, r9, w9, r10, w10, r11, w11, r12, w12, r15, w15, r16, w16, r17, w17, r19, w19, r20, w20, r53, w53, r54, w54, r55, w55, r56, w56, r57, w57, r58, w58, r59, w59, r60, w60, a1, a5, pt2, rt2, wt2, pt3, rt3, wt3, pt4, rt4, wt4, pt5, rt5, wt5, pm2, rm2, wm2, pm3, rm3, wm3, pm4, rm4, wm4, pm5, rm5, wm5, l1, l2, l3, l5, l6, l7, l8, l10, l11, l12, l31, l36, l63, l100, l1000, l1440, l1000000, l16777216, p0, p1, h3, h7, qn_sub, m1, hc, b3.2]
      · refine ⟨.inl (nI (t + 1)), ?_, rfl, step (fun ⟨i, q1, q2, _⟩ => h1 i q1 q2.1)⟩
        show cX6_firstTrain_2 N R I 51 (nI F) (nI M) (nI t) = _
        unfold cX6_firstTrain_2
        simp (disch := first | assumption | omega) only [obs, qle, ↓lm1, l0, qn_add, pk_mul, n_le, n_lt, n_eq, n_sM, n_Ms, n_Mlt, n_Mle, n_ltM, n_leM, ↓reduceIte, eq_self, if_pos, if_neg, qx, p0_0, p0_1, p0_2, p0_3, p2_0, p4_0, p4_1, p4_2, p4_3, p4_4, p4_5, p8_1, p8_5, p8_6, p8_7, p14_0, p14_4, p14_5, p18_1, p18_2, p51_4, p51_5, p51_8, p51_9, p51_10, p51_11, p51_12, p51_14, r3, w3, r6, w6, r7, w7, r9, w9, r10, w10, r11, w11, r12, w12, r15, w15, r16, w16, r17, w17, r19, w19, r20, w20, r53, w53, r54, w54, r55, w55, r56, w56, r57, w57, r58, w58, r59, w59, r60, w60, a1, a5, pt2, rt2, wt2, pt3, rt3, wt3, pt4, rt4, wt4, pt5, rt5, wt5, pm2, rm2, wm2, pm3, rm3, wm3, pm4, rm4, wm4, pm5, rm5, wm5, l1, l2, l3, l5, l6, l7, l8, l10, l11, l12, l31, l36, l63, l100, l1000, l1440, l1000000, l16777216, p0, p1, h2]
    · obtain ⟨rfl, g1⟩ := hq
      refine ⟨.inr (.inl ()), ?_, fun t q => g1 t (hftn t q) q⟩
      show cX6_firstTrain_2 N R I 51 (nI F) (nI M) (nI n) = _
      unfold cX6_firstTrain_2
      simp (disch := first | assumption | omega) only [obs, qle, ↓lm1, l0, qn_add, pk_mul, n_le, n_lt, n_eq, n_sM, n_Ms, n_Mlt, n_Mle, n_ltM, n_leM, ↓reduceIte, eq_self, if_pos, if_neg, qx, p0_0, p0_1, p0_2, p0_3, p2_0, p4_0, p4_1, p4_2, p4_3, p4_4, p4_5, p8_1, p8_5, p8_6, p8_7, p14_0, p14_4, p14_5, p18_1, p18_2, p51_4, p51_5, p51_8, p51_9, p51_10, p51_11, p51_12, p51_14, r3, w3, r6, w6, r7, w7, r9, w9, r10, w10, r11, w11, r12, w12, r15, w15, r16, w16, r17, w17, r19, w19, r20, w20, r53, w53, r54, w54, r55, w55, r56, w56, r57, w57, r58, w58, r59, w59, r60, w60, a1, a5, pt2, rt2, wt2, pt3, rt3, wt3, pt4, rt4, wt4, pt5, rt5, wt5, pm2, rm2, wm2, pm3, rm3, wm3, pm4, rm4, wm4, pm5, rm5, wm5, l1, l2, l3, l5, l6, l7, l8, l10, l11, l12, l31, l36, l63, l100, l1000, l1440, l1000000, l16777216, p1]
  · cases o with
    | inl _ => exact ok_some (Or.inl ⟨by rw [lm1], ho⟩)
    | inr r => exact ok_some (Or.inr ho)
theorem fillRow_ok {I : qI} {L : Nat} {x1 x3 : Int32} (hN : 300000 ≤ N) (hL : LR R) (w : wb n NS ST CT GT (rD n day D) W F) (hF : FPx R I n NS ST CT GT D W day) (hB : LB n NS ST CT GT D W day T v L I) (h7 : I 51 7 = nI L) (hL0 : 0 < L) (hL10 : L < 10) : ok (qloop (fun s => cX6_countLegs_87 N R 51 x1 x3 s.1 s.2) N ((0 : Int32), I)) (fun J => LB n NS ST CT GT D W day T v (L + 1) J ∧ ∀ a, a ≠ 54 → J a = I a) := by
  have hn10 := w.1
  refine ok_for (fun t q => ∃ J, q = (nI t, J) ∧ LB n NS ST CT GT D W day T v L J ∧ (∀ u, u < t → ∃ m, J 54 (L * 10 + u) = nP m ∧ isMx NS ST CT GT (rD n day D) W T v L u m ∧ m < 8) ∧ ∀ a, a ≠ 54 → J a = I a) n (by omega) ⟨I, by rw [l0], hB, fun u hu => by omega, fun _ _ => rfl⟩ (fun t q ht hq => ?_) (fun q hq => ?_)
  · obtain ⟨J, rfl, g1, g2, g3⟩ := hq
    have hFJ : FPx R J n NS ST CT GT D W day := hF.congr hn10 (fun a ha => g3 a (by omega)) (by rw [g3 51 (by omega)]) (by rw [g3 51 (by omega)]) (by rw [g3 51 (by omega)])
    obtain ⟨p0, p1, p2, p3, p4, p5, p6⟩ := id hFJ
    have e7 : J 51 7 = nI L := by rw [g3 51 (by omega)]; exact h7
    have ht10 : t < 10 := by omega
    have fin : ∀ m, isMx NS ST CT GT (rD n day D) W T v L t m → m < 8 → ∃ K, (nI (t + 1), qup J 54 (L * 10 + t) (nP m)) = (nI (t + 1), K) ∧ LB n NS ST CT GT D W day T v L K ∧ (∀ u, u < t + 1 → ∃ m, K 54 (L * 10 + u) = nP m ∧ isMx NS ST CT GT (rD n day D) W T v L u m ∧ m < 8) ∧ ∀ a, a ≠ 54 → K a = I a := by
      intro m h1 h2
      refine ⟨_, rfl, fun k u hk hu => ?_, fun u hu => ?_, fun a ha => by rw [qup_ne _ _ _ ha]; exact g3 a ha⟩
      · rw [qup_off (by omega)]; exact g1 k u hk hu
      · by_cases e : u = t
        · subst e; exact ⟨m, qup_on, h1, h2⟩
        · rw [qup_off (by omega)]; exact g2 u (by omega)
    by_cases hr : (D t).testBit day = true
    · have rr := runs5_t (R := R) (p6 t ht).1 p4 hr
      obtain ⟨k, hk⟩ : ∃ k, L = k + 1 := ⟨L - 1, by omega⟩
      have g1' := g1
      rw [hk] at g1'
      obtain ⟨m, m1, m2, m3⟩ := boardBefore_ok (N := N) (R := R) hN hL w hFJ g1' (by omega) ⟨ht, hr⟩
      rw [← hk] at m2
      have hk1 : L - 1 = k := by omega
      refine ⟨.inl (nI (t + 1), qup J 54 (L * 10 + t) (nP m)), ?_, fin m m2 m3⟩
      show cX6_countLegs_87 N R 51 x1 x3 (nI t) J = _
      unfold cX6_countLegs_87
      simp (disch := first | assumption | omega) only [obs, qle, ↓lm1, l0, qn_add, pk_mul, n_le, n_lt, n_eq, n_sM, n_Ms, n_Mlt, n_Mle, n_ltM, n_leM, ↓reduceIte, eq_self, if_pos, if_neg, qx, p0_0, p0_1, p0_2, p0_3, p2_0, p4_0, p4_1, p4_2, p4_3, p4_4, p4_5, p8_1, p8_5, p8_6, p8_7, p14_0, p14_4, p14_5, p18_1, p18_2, p51_4, p51_5, p51_8, p51_9, p51_10, p51_11, p51_12, p51_14, r3, w3, r6, w6, r7, w7, r9, w9, r10, w10, r11, w11, r12, w12, r15, w15, r16, w16, r17, w17, r19, w19, r20, w20, r53, w53, r54, w54, r55, w55, r56, w56, r57, w57, r58, w58, r59, w59, r60, w60, a1, a5, pt2, rt2, wt2, pt3, rt3, wt3, pt4, rt4, wt4, pt5, rt5, wt5, pm2, rm2, wm2, pm3, rm3, wm3, pm4, rm4, wm4, pm5, rm5, wm5, l1, l2, l3, l5, l6, l7, l8, l10, l11, l12, l31, l36, l63, l100, l1000, l1440, l1000000, l16777216, p0, p1, p2, rr, e7, qn_sub, hk1, m1]
    · have rr := runs5_f (R := R) (p6 t ht).1 p4 hr
      refine ⟨.inl (nI (t + 1), qup J 54 (L * 10 + t) (nP 0)), ?_, fin 0 (mx_none (fun q => hr q.2)) (by omega)⟩
      show cX6_countLegs_87 N R 51 x1 x3 (nI t) J = _
      unfold cX6_countLegs_87
      simp (disch := first | assumption | omega) only [obs, qle, ↓lm1, l0, qn_add, pk_mul, n_le, n_lt, n_eq, n_sM, n_Ms, n_Mlt, n_Mle, n_ltM, n_leM, ↓reduceIte, eq_self, if_pos, if_neg, qx, p0_0, p0_1, p0_2, p0_3, p2_0, p4_0, p4_1, p4_2, p4_3, p4_4, p4_5, p8_1, p8_5, p8_6, p8_7, p14_0, p14_4, p14_5, p18_1, p18_2, p51_4, p51_5, p51_8, p51_9, p51_10, p51_11, p51_12, p51_14, r3, w3, r6, w6, r7, w7, r9, w9, r10, w10, r11, w11, r12, w12, r15, w15, r16, w16, r17, w17, r19, w19, r20, w20, r53, w53, r54, w54, r55, w55, r56, w56, r57, w57, r58, w58, r59, w59, r60, w60, a1, a5, pt2, rt2, wt2, pt3, rt3, wt3, pt4, rt4, wt4, pt5, rt5, wt5, pm2, rm2, wm2, pm3, rm3, wm3, pm4, rm4, wm4, pm5, rm5, wm5, l1, l2, l3, l5, l6, l7, l8, l10, l11, l12, l31, l36, l63, l100, l1000, l1440, l1000000, l16777216, p0, p1, p2, rr, e7]
      rfl
  · obtain ⟨J, rfl, g1, g2, g3⟩ := hq
    have e1 : J 51 1 = nI n := by rw [g3 51 (by omega)]; exact hF.2.1
    refine ⟨.inr J, ?_, fun k t hk ht => ?_, g3⟩
    · show cX6_countLegs_87 N R 51 x1 x3 (nI n) J = _
      unfold cX6_countLegs_87
      simp (disch := first | assumption | omega) only [obs, qle, ↓lm1, l0, qn_add, pk_mul, n_le, n_lt, n_eq, n_sM, n_Ms, n_Mlt, n_Mle, n_ltM, n_leM, ↓reduceIte, eq_self, if_pos, if_neg, qx, p0_0, p0_1, p0_2, p0_3, p2_0, p4_0, p4_1, p4_2, p4_3, p4_4, p4_5, p8_1, p8_5, p8_6, p8_7, p14_0, p14_4, p14_5, p18_1, p18_2, p51_4, p51_5, p51_8, p51_9, p51_10, p51_11, p51_12, p51_14, r3, w3, r6, w6, r7, w7, r9, w9, r10, w10, r11, w11, r12, w12, r15, w15, r16, w16, r17, w17, r19, w19, r20, w20, r53, w53, r54, w54, r55, w55, r56, w56, r57, w57, r58, w58, r59, w59, r60, w60, a1, a5, pt2, rt2, wt2, pt3, rt3, wt3, pt4, rt4, wt4, pt5, rt5, wt5, pm2, rm2, wm2, pm3, rm3, wm3, pm4, rm4, wm4, pm5, rm5, wm5, l1, l2, l3, l5, l6, l7, l8, l10, l11, l12, l31, l36, l63, l100, l1000, l1440, l1000000, l16777216, e1]
    · by_cases e : k = L
      · subst e; exact g2 t ht
      · exact g1 k t (by omega) ht
theorem countLegs_ok {I : qI} {kq : Nat} (hN : 300000 ≤ N) (hL : LR R) (w : wb n NS ST CT GT (rD n day D) W F) (hF : FPx R I n NS ST CT GT D W day) (hv : I 51 6 = nI v) (hv2 : v < 1440) (hT : T < 12) (hM : M ≤ 1440) (hk : kq < n) (hex : ∃ t, ft NS ST CT GT (rD n day D) W F T v M kq t) (hno : ∀ k, k < kq → ∀ t, ¬ ft NS ST CT GT (rD n day D) W F T v M k t) : ok (fX6_countLegs N R I 51 (nI F) (nI T) (nI M)) (fun J => LB n NS ST CT GT D W day T v (kq + 1) J ∧ J 51 7 = nI (kq + 1) ∧ (∀ a, a ≠ 54 → a ≠ 51 → J a = I a) ∧ ∀ j, j ≠ 7 → J 51 j = I 51 j) := by
  have hn10 := w.1
  unfold fX6_countLegs
  refine ok_bind (ok_mono (P := fun J => LB n NS ST CT GT D W day T v 1 J ∧ ∀ a, a ≠ 54 → J a = I a) ?_ (fun J0 hJ0 => ?_))
  · refine ok_for (fun t q => ∃ J, q = (nI t, J) ∧ (∀ u, u < t → ∃ m, J 54 u = nP m ∧ isMx NS ST CT GT (rD n day D) W T v 0 u m ∧ m < 8) ∧ ∀ a, a ≠ 54 → J a = I a) n (by omega) ⟨I, by rw [l0], fun u hu => by omega, fun _ _ => rfl⟩ (fun t q ht hq => ?_) (fun q hq => ?_)
    · obtain ⟨J, rfl, g2, g3⟩ := hq
      have hFJ : FPx R J n NS ST CT GT D W day := hF.congr hn10 (fun a ha => g3 a (by omega)) (by rw [g3 51 (by omega)]) (by rw [g3 51 (by omega)]) (by rw [g3 51 (by omega)])
      obtain ⟨p0, p1, p2, p3, p4, p5, p6⟩ := id hFJ
      have ht10 : t < 10 := by omega
      have fin : ∀ m, isMx NS ST CT GT (rD n day D) W T v 0 t m → m < 8 → ∃ K, (nI (t + 1), qup J 54 t (nP m)) = (nI (t + 1), K) ∧ (∀ u, u < t + 1 → ∃ m, K 54 u = nP m ∧ isMx NS ST CT GT (rD n day D) W T v 0 u m ∧ m < 8) ∧ ∀ a, a ≠ 54 → K a = I a := by
        intro m h1 h2
        refine ⟨_, rfl, fun u hu => ?_, fun a ha => by rw [qup_ne _ _ _ ha]; exact g3 a ha⟩
        by_cases e : u = t
        · subst e; exact ⟨m, qup_on, h1, h2⟩
        · rw [qup_off (by omega)]; exact g2 u (by omega)
      by_cases hr : (D t).testBit day = true
      · have rr := runs5_t (R := R) (p6 t ht).1 p4 hr
        obtain ⟨m, m1, m2, m3⟩ := boardTo_ok (R := R) hL w hFJ (by rw [g3 51 (by omega)]; exact hv) hv2 hT ⟨ht, hr⟩
        refine ⟨.inl (nI (t + 1), qup J 54 t (nP m)), ?_, fin m m2 m3⟩
        show cX6_countLegs_3 N R 51 (nI F) (nI T) (nI M) (nI t) J = _
        unfold cX6_countLegs_3
        simp (disch := first | assumption | omega) only [obs, qle, ↓lm1, l0, qn_add, pk_mul, n_le, n_lt, n_eq, n_sM, n_Ms, n_Mlt, n_Mle, n_ltM, n_leM, ↓reduceIte, eq_self, if_pos, if_neg, qx, p0_0, p0_1, p0_2, p0_3, p2_0, p4_0, p4_1, p4_2, p4_3, p4_4, p4_5, p8_1, p8_5, p8_6, p8_7, p14_0, p14_4, p14_5, p18_1, p18_2, p51_4, p51_5, p51_8, p51_9, p51_10, p51_11, p51_12, p51_14, r3, w3, r6, w6, r7, w7, r9, w9, r10, w10, r11, w11, r12, w12, r15, w15, r16, w16, r17, w17, r19, w19, r20, w20, r53, w53, r54, w54, r55, w55, r56, w56, r57, w57, r58, w58, r59, w59, r60, w60, a1, a5, pt2, rt2, wt2, pt3, rt3, wt3, pt4, rt4, wt4, pt5, rt5, wt5, pm2, rm2, wm2, pm3, rm3, wm3, pm4, rm4, wm4, pm5, rm5, wm5, l1, l2, l3, l5, l6, l7, l8, l10, l11, l12, l31, l36, l63, l100, l1000, l1440, l1000000, l16777216, p0, p1, p2, rr, m1]
      · have rr := runs5_f (R := R) (p6 t ht).1 p4 hr
        refine ⟨.inl (nI (t + 1), qup J 54 t (nP 0)), ?_, fin 0 (mx_none (fun q => hr q.2)) (by omega)⟩
        show cX6_countLegs_3 N R 51 (nI F) (nI T) (nI M) (nI t) J = _
        unfold cX6_countLegs_3
        simp (disch := first | assumption | omega) only [obs, qle, ↓lm1, l0, qn_add, pk_mul, n_le, n_lt, n_eq, n_sM, n_Ms, n_Mlt, n_Mle, n_ltM, n_leM, ↓reduceIte, eq_self, if_pos, if_neg, qx, p0_0, p0_1, p0_2, p0_3, p2_0, p4_0, p4_1, p4_2, p4_3, p4_4, p4_5, p8_1, p8_5, p8_6, p8_7, p14_0, p14_4, p14_5, p18_1, p18_2, p51_4, p51_5, p51_8, p51_9, p51_10, p51_11, p51_12, p51_14, r3, w3, r6, w6, r7, w7, r9, w9, r10, w10, r11, w11, r12, w12, r15, w15, r16, w16, r17, w17, r19, w19, r20, w20, r53, w53, r54, w54, r55, w55, r56, w56, r57, w57, r58, w58, r59, w59, r60, w60, a1, a5, pt2, rt2, wt2, pt3, rt3, wt3, pt4, rt4, wt4, pt5, rt5, wt5, pm2, rm2, wm2, pm3, rm3, wm3, pm4, rm4, wm4, pm5, rm5, wm5, l1, l2, l3, l5, l6, l7, l8, l10, l11, l12, l31, l36, l63, l100, l1000, l1440, l1000000, l16777216, p0, p1, p2, rr]
        rfl
    · obtain ⟨J, rfl, g2, g3⟩ := hq
      have e1 : J 51 1 = nI n := by rw [g3 51 (by omega)]; exact hF.2.1
      refine ⟨.inr J, ?_, fun k t hk ht => ?_, g3⟩
      · show cX6_countLegs_3 N R 51 (nI F) (nI T) (nI M) (nI n) J = _
        unfold cX6_countLegs_3
        simp (disch := first | assumption | omega) only [obs, qle, ↓lm1, l0, qn_add, pk_mul, n_le, n_lt, n_eq, n_sM, n_Ms, n_Mlt, n_Mle, n_ltM, n_leM, ↓reduceIte, eq_self, if_pos, if_neg, qx, p0_0, p0_1, p0_2, p0_3, p2_0, p4_0, p4_1, p4_2, p4_3, p4_4, p4_5, p8_1, p8_5, p8_6, p8_7, p14_0, p14_4, p14_5, p18_1, p18_2, p51_4, p51_5, p51_8, p51_9, p51_10, p51_11, p51_12, p51_14, r3, w3, r6, w6, r7, w7, r9, w9, r10, w10, r11, w11, r12, w12, r15, w15, r16, w16, r17, w17, r19, w19, r20, w20, r53, w53, r54, w54, r55, w55, r56, w56, r57, w57, r58, w58, r59, w59, r60, w60, a1, a5, pt2, rt2, wt2, pt3, rt3, wt3, pt4, rt4, wt4, pt5, rt5, wt5, pm2, rm2, wm2, pm3, rm3, wm3, pm4, rm4, wm4, pm5, rm5, wm5, l1, l2, l3, l5, l6, l7, l8, l10, l11, l12, l31, l36, l63, l100, l1000, l1440, l1000000, l16777216, e1]
      · obtain rfl : k = 0 := by omega
        rw [Nat.zero_mul, Nat.zero_add]
        exact g2 t ht
  obtain ⟨j1, j2⟩ := hJ0
  refine ok_let (ok_bind (ok_mono (P := fun J => LB n NS ST CT GT D W day T v (kq + 1) J ∧ J 51 7 = nI (kq + 1) ∧ (∀ a, a ≠ 54 → a ≠ 51 → J a = I a) ∧ ∀ j, j ≠ 7 → J 51 j = I 51 j) ?_ (fun r hr => ok_some hr)))
  refine ok_for (fun r J => LB n NS ST CT GT D W day T v (r + 1) J ∧ J 51 7 = nI (r + 1) ∧ (∀ a, a ≠ 54 → a ≠ 51 → J a = I a) ∧ ∀ j, j ≠ 7 → J 51 j = I 51 j) kq (by omega) ⟨fun k t hk ht => by rw [qup_off (by omega)]; exact j1 k t hk ht, by rw [qup_on, l1], fun a h1 h2 => by rw [qup_ne _ _ _ h2]; exact j2 a h1, fun j hj => by rw [qup_off (by omega), j2 51 (by omega)]⟩ (fun r J hr hq => ?_) (fun J hq => ?_)
  · obtain ⟨g1, g2, g3, g4⟩ := hq
    have hFJ : FPx R J n NS ST CT GT D W day := hF.congr hn10 (fun a ha => g3 a (by omega) (by omega)) (g4 1 (by omega)) (g4 2 (by omega)) (g4 3 (by omega))
    obtain ⟨rv, e1, e2⟩ := firstTrain7_ok (N := N) (R := R) hN hL w hFJ g1 g2 (by omega) (by omega) hM
    rw [Nat.add_sub_cancel] at e2
    have hrv : rv = nM := by
      rcases e2 with ⟨q, _⟩ | ⟨t, _, _, q, _⟩
      · exact q
      · exact absurd q (hno r hr t)
    subst hrv
    show ok (cX6_countLegs_63 N R 51 (nI F) (nI M) J) _
    unfold cX6_countLegs_63
    rw [hFJ.2.1, g2, if_neg (show ¬ nI n ≤ nI (r + 1) by rw [n_le (by omega) (by omega)]; omega)]
    refine ok_bindv e1 ?_
    rw [if_pos (show nM = -1 by rw [lm1])]
    refine ok_bind (ok_mono (fillRow_ok (N := N) (R := R) hN hL w hFJ g1 g2 (by omega) (by omega)) (fun K hK => ?_))
    obtain ⟨k1, k2⟩ := hK
    refine ok_let (ok_some ⟨fun k t hk ht => by rw [qup_off (by omega)]; exact k1 k t hk ht, by rw [qup_on, k2 51 (by omega), g2, nI_1], fun a h1 h2 => by rw [qup_ne _ _ _ h2, k2 a h1]; exact g3 a h1 h2, fun j hj => by rw [qup_off (by omega), k2 51 (by omega)]; exact g4 j hj⟩)
  · obtain ⟨g1, g2, g3, g4⟩ := hq
    have hFJ : FPx R J n NS ST CT GT D W day := hF.congr hn10 (fun a ha => g3 a (by omega) (by omega)) (g4 1 (by omega)) (g4 2 (by omega)) (g4 3 (by omega))
    show ok (cX6_countLegs_63 N R 51 (nI F) (nI M) J) _
    unfold cX6_countLegs_63
    rw [hFJ.2.1, g2]
    by_cases hle : n ≤ kq + 1
    · rw [if_pos (show nI n ≤ nI (kq + 1) by rw [n_le (by omega) (by omega)]; exact hle)]
      exact ok_some ⟨g1, g2, g3, g4⟩
    · rw [if_neg (show ¬ nI n ≤ nI (kq + 1) by rw [n_le (by omega) (by omega)]; exact hle)]
      obtain ⟨rv, e1, e2⟩ := firstTrain7_ok (N := N) (R := R) hN hL w hFJ g1 g2 (by omega) (by omega) hM
      rw [Nat.add_sub_cancel] at e2
      refine ok_bindv e1 ?_
      rcases e2 with ⟨_, q⟩ | ⟨t, rfl, q1, q2, q3⟩
      · obtain ⟨t, ht⟩ := hex
        exact absurd ht (q t)
      · rw [if_neg (show ¬ nI t = -1 by rw [lm1, n_sM (by omega)]; exact fun q => q)]
        exact ok_some ⟨g1, g2, g3, g4⟩
end LEGS7
