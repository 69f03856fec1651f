/-! THE CLASS'S ORDER OF COLUMNS -/
theorem firstBehind_ok {N c left : Nat} {b : Nat → Nat → Bool} {V : Nat → Nat} {R : qR} {I : qI} (hN : 300000 ≤ N) (hL : LR R) (hc : c ≤ 6) (hB : BR c b I) (hV : VP c b V) (hI : ∀ x, x < 2 ^ c → I 17 x = nI (V x) ∧ V x ≤ 30) (hl : left < 2 ^ c - 1) : ok (fX0_firstBehind N R I 14 (nI left)) (fun r => ∃ m, r = nI m ∧ m < c ∧ left.testBit m = false ∧ V left = cost c b m left + V (left ||| 2 ^ m) ∧ ∀ m2, m2 < m → left.testBit m2 = false → V left ≠ cost c b m2 left + V (left ||| 2 ^ m2)) := by
  have p6 := p2_64 hc
  have h3 := hB.1
  have hl2 : left < 2 ^ c := by omega
  have hl6 : left < 64 := by omega
  obtain ⟨hv1, hv2⟩ := hV.2 left hl
  have hc0 : 0 < c := by obtain ⟨m, hm, _⟩ := hv2; omega
  have hil := hI left hl2
  have hil2 := hil.2
  unfold fX0_firstBehind
  rw [l0]
  refine ok_bind (ok_mono (P := fun r => ∃ m, r = nI m ∧ m < c ∧ left.testBit m = false ∧ V left = cost c b m left + V (left ||| 2 ^ m) ∧ ∀ m2, m2 < m → left.testBit m2 = false → V left ≠ cost c b m2 left + V (left ||| 2 ^ m2)) ?_ (fun r hr => ok_some hr))
  refine ok_for (fun k q => q = nI k ∧ ∀ m2, m2 < k → left.testBit m2 = false → V left ≠ cost c b m2 left + V (left ||| 2 ^ m2)) (c - 1) (by omega) ⟨rfl, fun m hm => by omega⟩ (fun k q hk hq => ?_) (fun q hq => ?_)
  · obtain ⟨rfl, g⟩ := hq
    by_cases hb : left.testBit k = true
    · refine ⟨.inl (nI (k + 1)), ?_, rfl, fun m2 h1 h2 => ?_⟩
      · show cX0_firstBehind_2 N R I 14 (nI left) (nI k) = _
        unfold cX0_firstBehind_2
        have hbn : ¬ left.testBit k = false := by rw [hb]; simp
        simp (disch := first | assumption | omega) only [obs, qle, ↓lm1, l0, qn_add, pk_mul, n_le, n_lt, n_eq, n_sM, n_Ms, n_Mlt, n_Mle, n_ltM, n_leM, ↓reduceIte, eq_self, if_pos, if_neg, qx, p0_0, p0_1, p0_2, p0_3, p2_0, p4_0, p4_1, p4_2, p4_3, p4_4, p4_5, p8_1, p8_5, p8_6, p8_7, p14_0, p14_4, p14_5, p18_1, p18_2, p51_4, p51_5, p51_8, p51_9, p51_10, p51_11, p51_12, p51_14, r3, w3, r6, w6, r7, w7, r9, w9, r10, w10, r11, w11, r12, w12, r15, w15, r16, w16, r17, w17, r19, w19, r20, w20, r53, w53, r54, w54, r55, w55, r56, w56, r57, w57, r58, w58, r59, w59, r60, w60, a1, a5, pt2, rt2, wt2, pt3, rt3, wt3, pt4, rt4, wt4, pt5, rt5, wt5, pm2, rm2, wm2, pm3, rm3, wm3, pm4, rm4, wm4, pm5, rm5, wm5, l1, l2, l3, l5, l6, l7, l8, l10, l11, l12, l31, l36, l63, l100, l1000, l1440, l1000000, l16777216, h3, qn_sub, n_bit]
      · by_cases e : m2 = k
        · subst e; rw [hb] at h2; cases h2
        · exact g m2 (by omega) h2
    · have hb0 : left.testBit k = false := by simpa using hb
      have hio := hI _ (or_in c (by omega) left hl2 k (by omega))
      have hio2 := hio.2
      have fe := fewestWith_eq (R := R) hL hc hB (show k < c by omega) (left := left) hl2 hio.1
      have c5 := cost_5 (b := b) (m := k) hc hl
      by_cases heq : cost c b k left + V (left ||| 2 ^ k) = V left
      · refine ⟨.inr (nI k), ?_, k, rfl, by omega, hb0, heq.symm, g⟩
        show cX0_firstBehind_2 N R I 14 (nI left) (nI k) = _
        unfold cX0_firstBehind_2
        simp (disch := first | assumption | omega) only [obs, qle, ↓lm1, l0, qn_add, pk_mul, n_le, n_lt, n_eq, n_sM, n_Ms, n_Mlt, n_Mle, n_ltM, n_leM, ↓reduceIte, eq_self, if_pos, if_neg, qx, p0_0, p0_1, p0_2, p0_3, p2_0, p4_0, p4_1, p4_2, p4_3, p4_4, p4_5, p8_1, p8_5, p8_6, p8_7, p14_0, p14_4, p14_5, p18_1, p18_2, p51_4, p51_5, p51_8, p51_9, p51_10, p51_11, p51_12, p51_14, r3, w3, r6, w6, r7, w7, r9, w9, r10, w10, r11, w11, r12, w12, r15, w15, r16, w16, r17, w17, r19, w19, r20, w20, r53, w53, r54, w54, r55, w55, r56, w56, r57, w57, r58, w58, r59, w59, r60, w60, a1, a5, pt2, rt2, wt2, pt3, rt3, wt3, pt4, rt4, wt4, pt5, rt5, wt5, pm2, rm2, wm2, pm3, rm3, wm3, pm4, rm4, wm4, pm5, rm5, wm5, l1, l2, l3, l5, l6, l7, l8, l10, l11, l12, l31, l36, l63, l100, l1000, l1440, l1000000, l16777216, h3, qn_sub, n_bit, fe, hil.1]
      · refine ⟨.inl (nI (k + 1)), ?_, rfl, fun m2 h1 h2 => ?_⟩
        · show cX0_firstBehind_2 N R I 14 (nI left) (nI k) = _
          unfold cX0_firstBehind_2
          simp (disch := first | assumption | omega) only [obs, qle, ↓lm1, l0, qn_add, pk_mul, n_le, n_lt, n_eq, n_sM, n_Ms, n_Mlt, n_Mle, n_ltM, n_leM, ↓reduceIte, eq_self, if_pos, if_neg, qx, p0_0, p0_1, p0_2, p0_3, p2_0, p4_0, p4_1, p4_2, p4_3, p4_4, p4_5, p8_1, p8_5, p8_6, p8_7, p14_0, p14_4, p14_5, p18_1, p18_2, p51_4, p51_5, p51_8, p51_9, p51_10, p51_11, p51_12, p51_14, r3, w3, r6, w6, r7, w7, r9, w9, r10, w10, r11, w11, r12, w12, r15, w15, r16, w16, r17, w17, r19, w19, r20, w20, r53, w53, r54, w54, r55, w55, r56, w56, r57, w57, r58, w58, r59, w59, r60, w60, a1, a5, pt2, rt2, wt2, pt3, rt3, wt3, pt4, rt4, wt4, pt5, rt5, wt5, pm2, rm2, wm2, pm3, rm3, wm3, pm4, rm4, wm4, pm5, rm5, wm5, l1, l2, l3, l5, l6, l7, l8, l10, l11, l12, l31, l36, l63, l100, l1000, l1440, l1000000, l16777216, h3, qn_sub, n_bit, fe, hil.1]
        · by_cases e : m2 = k
          · subst e; exact fun q => heq q.symm
          · exact g m2 (by omega) h2
  · obtain ⟨rfl, g⟩ := hq
    obtain ⟨m, m1, m2, m3⟩ := hv2
    have : m = c - 1 := by
      apply Classical.byContradiction
      intro q
      exact g m (by omega) m2 m3
    subst this
    refine ⟨.inr (nI (c - 1)), ?_, c - 1, rfl, m1, m2, m3, g⟩
    show cX0_firstBehind_2 N R I 14 (nI left) (nI (c - 1)) = _
    unfold cX0_firstBehind_2
    simp (disch := first | assumption | omega) only [obs, qle, ↓lm1, l0, qn_add, pk_mul, n_le, n_lt, n_eq, n_sM, n_Ms, n_Mlt, n_Mle, n_ltM, n_leM, ↓reduceIte, eq_self, if_pos, if_neg, qx, p0_0, p0_1, p0_2, p0_3, p2_0, p4_0, p4_1, p4_2, p4_3, p4_4, p4_5, p8_1, p8_5, p8_6, p8_7, p14_0, p14_4, p14_5, p18_1, p18_2, p51_4, p51_5, p51_8, p51_9, p51_10, p51_11, p51_12, p51_14, r3, w3, r6, w6, r7, w7, r9, w9, r10, w10, r11, w11, r12, w12, r15, w15, r16, w16, r17, w17, r19, w19, r20, w20, r53, w53, r54, w54, r55, w55, r56, w56, r57, w57, r58, w58, r59, w59, r60, w60, a1, a5, pt2, rt2, wt2, pt3, rt3, wt3, pt4, rt4, wt4, pt5, rt5, wt5, pm2, rm2, wm2, pm3, rm3, wm3, pm4, rm4, wm4, pm5, rm5, wm5, l1, l2, l3, l5, l6, l7, l8, l10, l11, l12, l31, l36, l63, l100, l1000, l1440, l1000000, l16777216, h3, qn_sub]
theorem lf_congr {o o2 : Nat → Nat} : ∀ j, (∀ i, i < j → o2 i = o i) → lf o2 j = lf o j := by
  intro j
  induction j with
  | zero => intro _; rfl
  | succ j ih => intro h; rw [lf, lf, ih (fun i hi => h i (by omega)), h j (by omega)]
theorem setOrder_ok {N c : Nat} {b : Nat → Nat → Bool} {V : Nat → Nat} {R : qR} {I : qI} (hN : 300000 ≤ N) (hL : LR R) (hc : c ≤ 6) (hB : BR c b I) (hV : VP c b V) (hI : ∀ x, x < 2 ^ c → I 17 x = nI (V x) ∧ V x ≤ 30) : ok (fX0_setOrder N R I 14) (fun J => (∃ o, OP c b V o c ∧ ∀ i, i < c → J 15 i = nI (o i)) ∧ ∀ a, a ≠ 15 → J a = I a) := by
  have p6 := p2_64 hc
  have h3 := hB.1
  unfold fX0_setOrder
  rw [l0]
  refine ok_bind (ok_mono (P := fun J => (∃ o, OP c b V o c ∧ ∀ i, i < c → J 15 i = nI (o i)) ∧ ∀ a, a ≠ 15 → J a = I a) ?_ (fun r hr => ok_some hr))
  refine ok_for (fun j q => ∃ o J, q = (nI (lf o j), nI j, J) ∧ OP c b V o j ∧ (∀ i, i < j → J 15 i = nI (o i)) ∧ ∀ a, a ≠ 15 → J a = I a) c (by omega) ⟨fun _ => 0, I, rfl, fun j hj => by omega, fun i hi => by omega, fun _ _ => rfl⟩ (fun j q hj hq => ?_) (fun q hq => ?_)
  · obtain ⟨o, J, rfl, g1, g2, g3⟩ := hq
    have hBJ : BR c b J := ⟨by rw [g3 14 (by omega)]; exact h3, fun a ha => by rw [g3 16 (by omega)]; exact hB.2 a ha⟩
    have hll := lf_ok hc (fun j hj => ⟨(g1 j hj).1, (g1 j hj).2.1⟩) j (Nat.le_refl _)
    have hlt : lf o j < 2 ^ c - 1 := left_lt hc hll.1 (n := c - j - 1) (by omega)
    show ok (cX0_setOrder_4 N R 14 (nI (lf o j)) (nI j) J) _
    unfold cX0_setOrder_4
    rw [hBJ.1, if_neg (show ¬ nI c ≤ nI j by rw [n_le (by omega) (by omega)]; omega)]
    refine ok_bind (ok_mono (firstBehind_ok (N := N) hN hL hc hBJ hV (fun x hx => by rw [g3 17 (by omega)]; exact hI x hx) hlt) (fun r hr => ?_))
    obtain ⟨m, rfl, m1, m2, m3, m4⟩ := hr
    refine ok_bindv (p14_0 hL) (ok_bindv (w15 hL (by omega)) ?_)
    rw [l1, l31, n_1s (by omega), fa_or, qn_add]
    have hlo : ∀ i, i ≤ j → lf (fun i => if i = j then m else o i) i = lf o i := fun i hi => lf_congr i (fun x hx => by show (if x = j then m else o x) = o x; rw [if_neg (by omega)])
    refine ok_some ⟨fun i => if i = j then m else o i, qup J 15 j (nI m), ?_, fun x hx => ?_, fun i hi => ?_, fun a ha => by rw [qup_ne _ _ _ ha]; exact g3 a ha⟩
    · rw [lf, hlo j (Nat.le_refl _), if_pos rfl]
    · by_cases e : x = j
      · subst e
        simp only [if_pos]
        rw [hlo x (Nat.le_refl _)]
        exact ⟨m1, m2, m3, m4⟩
      · simp only [if_neg e]
        rw [hlo x (by omega)]
        exact g1 x (by omega)
    · by_cases e : i = j
      · subst e
        simp only [if_pos]
        exact qup_on
      · simp only [if_neg e]
        rw [qup_off (by omega)]
        exact g2 i (by omega)
  · obtain ⟨o, J, rfl, g1, g2, g3⟩ := hq
    refine ⟨.inr J, ?_, ⟨o, g1, g2⟩, g3⟩
    show cX0_setOrder_4 N R 14 (nI (lf o c)) (nI c) J = _
    unfold cX0_setOrder_4
    rw [g3 14 (by omega), h3]
    simp (disch := first | assumption | omega) only [obs, qle, ↓lm1, l0, qn_add, pk_mul, n_le, n_lt, n_eq, n_sM, n_Ms, n_Mlt, n_Mle, n_ltM, n_leM, ↓reduceIte, eq_self, if_pos, if_neg, qx, p0_0, p0_1, p0_2, p0_3, p2_0, p4_0, p4_1, p4_2, p4_3, p4_4, p4_5, p8_1, p8_5, p8_6, p8_7, p14_0, p14_4, p14_5, p18_1, p18_2, p51_4, p51_5, p51_8, p51_9, p51_10, p51_11, p51_12, p51_14, r3, w3, r6, w6, r7, w7, r9, w9, r10, w10, r11, w11, r12, w12, r15, w15, r16, w16, r17, w17, r19, w19, r20, w20, r53, w53, r54, w54, r55, w55, r56, w56, r57, w57, r58, w58, r59, w59, r60, w60, a1, a5, pt2, rt2, wt2, pt3, rt3, wt3, pt4, rt4, wt4, pt5, rt5, wt5, pm2, rm2, wm2, pm3, rm3, wm3, pm4, rm4, wm4, pm5, rm5, wm5, l1, l2, l3, l5, l6, l7, l8, l10, l11, l12, l31, l36, l63, l100, l1000, l1440, l1000000, l16777216]
/-- knots -/
def kk (b : Nat → Nat → Bool) (x y : Nat) : Nat := if b x y = true ∧ b y x = true then 1 else 0
theorem knots7_ok {N c : Nat} {b : Nat → Nat → Bool} {R : qR} {I : qI} (hN : 300000 ≤ N) (hL : LR R) (hc : c ≤ 6) (hB : BR c b I) (h2 : I 14 2 = nI 0) : ok (qloop (fun s => cX0_arrange_37 N R 14 (nI c) s.1 s.2) N ((0 : Int32), I)) (fun J => J 14 2 = nI (sm (fun j => sm (fun i => kk b i j) j) c) ∧ (∀ j, j ≠ 2 → J 14 j = I 14 j) ∧ ∀ a, a ≠ 14 → J a = I a) := by
  have h3 := hB.1
  refine ok_for (fun a q => ∃ J, q = (nI a, J) ∧ J 14 2 = nI (sm (fun j => sm (fun i => kk b i j) j) a) ∧ (∀ j, j ≠ 2 → J 14 j = I 14 j) ∧ ∀ a, a ≠ 14 → J a = I a) c (by omega) ⟨I, by rw [l0], h2, fun _ _ => rfl, fun _ _ => rfl⟩ (fun a q ha hq => ?_) (fun q hq => ?_)
  · obtain ⟨J, rfl, g1, g2, g3⟩ := hq
    show ok (cX0_arrange_37 N R 14 (nI c) (nI a) J) _
    unfold cX0_arrange_37
    rw [if_neg (show ¬ nI c ≤ nI a by rw [n_le (by omega) (by omega)]; omega)]
    refine ok_bind (ok_mono (P := fun K => K 14 2 = nI (sm (fun j => sm (fun i => kk b i j) j) (a + 1)) ∧ (∀ j, j ≠ 2 → K 14 j = I 14 j) ∧ ∀ a, a ≠ 14 → K a = I a) ?_ (fun K hK => ?_))
    · refine ok_for (fun y q => ∃ K, q = (nI y, K) ∧ K 14 2 = nI (sm (fun j => sm (fun i => kk b i j) j) a + sm (fun i => kk b i a) y) ∧ (∀ j, j ≠ 2 → K 14 j = I 14 j) ∧ ∀ a, a ≠ 14 → K a = I a) a (by omega) ⟨J, by rw [l0], g1, g2, g3⟩ (fun y q hy hq => ?_) (fun q hq => ?_)
      · obtain ⟨K, rfl, f1, f2, f3⟩ := hq
        have hBK : BR c b K := ⟨by rw [f2 3 (by omega)]; exact h3, fun x hx => by rw [f3 16 (by omega)]; exact hB.2 x hx⟩
        have w1 := wouldBreach_eq (R := R) hL hc hBK ha (show y < c by omega) (show a ≠ y by omega)
        have w2 := wouldBreach_eq (R := R) hL hc hBK (show y < c by omega) ha (show y ≠ a by omega)
        have key : cX0_arrange_45 N R 14 (nI c) (nI a) (nI y) K = some (.inl (nI (y + 1), qup K 14 2 (nI (sm (fun j => sm (fun i => kk b i j) j) a + sm (fun i => kk b i a) (y + 1))))) := by
          unfold cX0_arrange_45
          by_cases b1 : b y a = true
          · by_cases b2 : b a y = true
            · have e1 : one b y a = 1 := by rw [one, if_pos b1]
              have e2 : one b a y = 1 := by rw [one, if_pos b2]
              have e3 : kk b y a = 1 := by rw [kk, if_pos ⟨b1, b2⟩]
              rw [e1] at w1
              rw [e2] at w2
              simp (disch := first | assumption | omega) only [obs, qle, ↓lm1, l0, qn_add, pk_mul, n_le, n_lt, n_eq, n_sM, n_Ms, n_Mlt, n_Mle, n_ltM, n_leM, ↓reduceIte, eq_self, if_pos, if_neg, qx, p0_0, p0_1, p0_2, p0_3, p2_0, p4_0, p4_1, p4_2, p4_3, p4_4, p4_5, p8_1, p8_5, p8_6, p8_7, p14_0, p14_4, p14_5, p18_1, p18_2, p51_4, p51_5, p51_8, p51_9, p51_10, p51_11, p51_12, p51_14, r3, w3, r6, w6, r7, w7, r9, w9, r10, w10, r11, w11, r12, w12, r15, w15, r16, w16, r17, w17, r19, w19, r20, w20, r53, w53, r54, w54, r55, w55, r56, w56, r57, w57, r58, w58, r59, w59, r60, w60, a1, a5, pt2, rt2, wt2, pt3, rt3, wt3, pt4, rt4, wt4, pt5, rt5, wt5, pm2, rm2, wm2, pm3, rm3, wm3, pm4, rm4, wm4, pm5, rm5, wm5, l1, l2, l3, l5, l6, l7, l8, l10, l11, l12, l31, l36, l63, l100, l1000, l1440, l1000000, l16777216, w1, w2, f1, sm, e3]
              rw [Nat.add_assoc]
            · have e1 : one b y a = 1 := by rw [one, if_pos b1]
              have e2 : one b a y = 0 := by rw [one, if_neg b2]
              have e3 : kk b y a = 0 := by rw [kk, if_neg (fun q => b2 q.2)]
              rw [e1] at w1
              rw [e2] at w2
              simp (disch := first | assumption | omega) only [obs, qle, ↓lm1, l0, qn_add, pk_mul, n_le, n_lt, n_eq, n_sM, n_Ms, n_Mlt, n_Mle, n_ltM, n_leM, ↓reduceIte, eq_self, if_pos, if_neg, qx, p0_0, p0_1, p0_2, p0_3, p2_0, p4_0, p4_1, p4_2, p4_3, p4_4, p4_5, p8_1, p8_5, p8_6, p8_7, p14_0, p14_4, p14_5, p18_1, p18_2, p51_4, p51_5, p51_8, p51_9, p51_10, p51_11, p51_12, p51_14, r3, w3, r6, w6, r7, w7, r9, w9, r10, w10, r11, w11, r12, w12, r15, w15, r16, w16, r17, w17, r19, w19, r20, w20, r53, w53, r54, w54, r55, w55, r56, w56, r57, w57, r58, w58, r59, w59, r60, w60, a1, a5, pt2, rt2, wt2, pt3, rt3, wt3, pt4, rt4, wt4, pt5, rt5, wt5, pm2, rm2, wm2, pm3, rm3, wm3, pm4, rm4, wm4, pm5, rm5, wm5, l1, l2, l3, l5, l6, l7, l8, l10, l11, l12, l31, l36, l63, l100, l1000, l1440, l1000000, l16777216, w1, w2, f1, sm, e3, Nat.add_zero]
          · have e1 : one b y a = 0 := by rw [one, if_neg b1]
            have e3 : kk b y a = 0 := by rw [kk, if_neg (fun q => b1 q.1)]
            rw [e1] at w1
            simp (disch := first | assumption | omega) only [obs, qle, ↓lm1, l0, qn_add, pk_mul, n_le, n_lt, n_eq, n_sM, n_Ms, n_Mlt, n_Mle, n_ltM, n_leM, ↓reduceIte, eq_self, if_pos, if_neg, qx, p0_0, p0_1, p0_2, p0_3, p2_0, p4_0, p4_1, p4_2, p4_3, p4_4, p4_5, p8_1, p8_5, p8_6, p8_7, p14_0, p14_4, p14_5, p18_1, p18_2, p51_4, p51_5, p51_8, p51_9, p51_10, p51_11, p51_12, p51_14, r3, w3, r6, w6, r7, w7, r9, w9, r10, w10, r11, w11, r12, w12, r15, w15, r16, w16, r17, w17, r19, w19, r20, w20, r53, w53, r54, w54, r55, w55, r56, w56, r57, w57, r58, w58, r59, w59, r60, w60, a1, a5, pt2, rt2, wt2, pt3, rt3, wt3, pt4, rt4, wt4, pt5, rt5, wt5, pm2, rm2, wm2, pm3, rm3, wm3, pm4, rm4, wm4, pm5, rm5, wm5, l1, l2, l3, l5, l6, l7, l8, l10, l11, l12, l31, l36, l63, l100, l1000, l1440, l1000000, l16777216, w1, f1, sm, e3, Nat.add_zero]
        exact ⟨_, key, _, rfl, qup_on, fun j hj => by rw [qup_off (by omega)]; exact f2 j hj, fun x hx => by rw [qup_ne _ _ _ hx]; exact f3 x hx⟩
      · obtain ⟨K, rfl, f1, f2, f3⟩ := hq
        refine ⟨.inr K, ?_, f1, f2, f3⟩
        show cX0_arrange_45 N R 14 (nI c) (nI a) (nI a) K = _
        unfold cX0_arrange_45
        simp (disch := first | assumption | omega) only [obs, qle, ↓lm1, l0, qn_add, pk_mul, n_le, n_lt, n_eq, n_sM, n_Ms, n_Mlt, n_Mle, n_ltM, n_leM, ↓reduceIte, eq_self, if_pos, if_neg, qx, p0_0, p0_1, p0_2, p0_3, p2_0, p4_0, p4_1, p4_2, p4_3, p4_4, p4_5, p8_1, p8_5, p8_6, p8_7, p14_0, p14_4, p14_5, p18_1, p18_2, p51_4, p51_5, p51_8, p51_9, p51_10, p51_11, p51_12, p51_14, r3, w3, r6, w6, r7, w7, r9, w9, r10, w10, r11, w11, r12, w12, r15, w15, r16, w16, r17, w17, r19, w19, r20, w20, r53, w53, r54, w54, r55, w55, r56, w56, r57, w57, r58, w58, r59, w59, r60, w60, a1, a5, pt2, rt2, wt2, pt3, rt3, wt3, pt4, rt4, wt4, pt5, rt5, wt5, pm2, rm2, wm2, pm3, rm3, wm3, pm4, rm4, wm4, pm5, rm5, wm5, l1, l2, l3, l5, l6, l7, l8, l10, l11, l12, l31, l36, l63, l100, l1000, l1440, l1000000, l16777216]
    · rw [nI_1]
      exact ok_some ⟨K, rfl, hK⟩
  · obtain ⟨J, rfl, g⟩ := hq
    refine ⟨.inr J, ?_, g⟩
    show cX0_arrange_37 N R 14 (nI c) (nI c) J = _
    unfold cX0_arrange_37
    simp (disch := first | assumption | omega) only [obs, qle, ↓lm1, l0, qn_add, pk_mul, n_le, n_lt, n_eq, n_sM, n_Ms, n_Mlt, n_Mle, n_ltM, n_leM, ↓reduceIte, eq_self, if_pos, if_neg, qx, p0_0, p0_1, p0_2, p0_3, p2_0, p4_0, p4_1, p4_2, p4_3, p4_4, p4_5, p8_1, p8_5, p8_6, p8_7, p14_0, p14_4, p14_5, p18_1, p18_2, p51_4, p51_5, p51_8, p51_9, p51_10, p51_11, p51_12, p51_14, r3, w3, r6, w6, r7, w7, r9, w9, r10, w10, r11, w11, r12, w12, r15, w15, r16, w16, r17, w17, r19, w19, r20, w20, r53, w53, r54, w54, r55, w55, r56, w56, r57, w57, r58, w58, r59, w59, r60, w60, a1, a5, pt2, rt2, wt2, pt3, rt3, wt3, pt4, rt4, wt4, pt5, rt5, wt5, pm2, rm2, wm2, pm3, rm3, wm3, pm4, rm4, wm4, pm5, rm5, wm5, l1, l2, l3, l5, l6, l7, l8, l10, l11, l12, l31, l36, l63, l100, l1000, l1440, l1000000, l16777216]
theorem arrange_ok {N c : Nat} {ns : Nat → Nat} {st cm gs : Nat → Nat → Nat} {R : qR} {I : qI} (hN : 300000 ≤ N) (hL : LR R) (w : wf c ns st) (hC : CM c ns st I) (hF : CF c ns st cm gs I) (hM : wm c ns cm gs) : ok (fX0_arrange N R I 14 5 (nI c)) (fun J => BR c (bB ns st cm gs) J ∧ (∃ V o, VP c (bB ns st cm gs) V ∧ OP c (bB ns st cm gs) V o c ∧ (∀ i, i < c → J 15 i = nI (o i)) ∧ J 14 1 = nI (V 0)) ∧ J 14 2 = nI (sm (fun j => sm (fun i => kk (bB ns st cm gs) i j) j) c) ∧ ∀ a, a < 14 ∨ 17 < a → J a = I a) := by
  have hc6 := w.1
  have pp : 0 < 2 ^ c := Nat.pow_pos (by omega)
  unfold fX0_arrange
  refine ok_let (ok_let (ok_bind (ok_mono (P := fun J => BR c (bB ns st cm gs) J ∧ J 14 2 = nI 0 ∧ ∀ a, a ≠ 14 → a ≠ 16 → J a = I a) ?_ (fun J1 hJ1 => ?_))))
  · refine ok_for (fun a q => ∃ J, q = (nI a, J) ∧ J 14 3 = nI c ∧ J 14 2 = nI 0 ∧ (∀ x, x < a → J 16 x = nI (bmk (bB ns st cm gs) x c)) ∧ ∀ x, x ≠ 14 → x ≠ 16 → J x = I x) c (by omega) ⟨_, by rw [l0], by rw [qup_off (by omega)]; exact qup_on, qup_on, fun x hx => by omega, fun x h1 h2 => by rw [qup_ne _ _ _ h1, qup_ne _ _ _ h1]⟩ (fun a q ha hq => ?_) (fun q hq => ?_)
    · obtain ⟨J, rfl, g1, g2, g3, g4⟩ := hq
      have hCJ : CM c ns st J := hC.congr hc6 (fun x h1 h2 => g4 x (by omega) (by omega))
      have hFJ : CF c ns st cm gs J := hF.congr hc6 (fun x h1 h2 => g4 x (by omega) (by omega))
      have bb := breachedBy_ok (N := N) hN hL w hCJ hFJ hM ha g1
      refine ⟨.inl (nI (a + 1), qup J 16 a (nI (bmk (bB ns st cm gs) a c))), ?_, _, rfl, by rw [qup_off (by omega)]; exact g1, by rw [qup_off (by omega)]; exact g2, fun x hx => ?_, fun x h1 h2 => by rw [qup_ne _ _ _ h2]; exact g4 x h1 h2⟩
      · show cX0_arrange_12 N R 14 5 (nI c) (nI a) J = _
        unfold cX0_arrange_12
        simp (disch := first | assumption | omega) only [obs, qle, ↓lm1, l0, qn_add, pk_mul, n_le, n_lt, n_eq, n_sM, n_Ms, n_Mlt, n_Mle, n_ltM, n_leM, ↓reduceIte, eq_self, if_pos, if_neg, qx, p0_0, p0_1, p0_2, p0_3, p2_0, p4_0, p4_1, p4_2, p4_3, p4_4, p4_5, p8_1, p8_5, p8_6, p8_7, p14_0, p14_4, p14_5, p18_1, p18_2, p51_4, p51_5, p51_8, p51_9, p51_10, p51_11, p51_12, p51_14, r3, w3, r6, w6, r7, w7, r9, w9, r10, w10, r11, w11, r12, w12, r15, w15, r16, w16, r17, w17, r19, w19, r20, w20, r53, w53, r54, w54, r55, w55, r56, w56, r57, w57, r58, w58, r59, w59, r60, w60, a1, a5, pt2, rt2, wt2, pt3, rt3, wt3, pt4, rt4, wt4, pt5, rt5, wt5, pm2, rm2, wm2, pm3, rm3, wm3, pm4, rm4, wm4, pm5, rm5, wm5, l1, l2, l3, l5, l6, l7, l8, l10, l11, l12, l31, l36, l63, l100, l1000, l1440, l1000000, l16777216, bb]
      · by_cases e : x = a
        · subst e; exact qup_on
        · rw [qup_off (by omega)]; exact g3 x (by omega)
    · obtain ⟨J, rfl, g1, g2, g3, g4⟩ := hq
      refine ⟨.inr J, ?_, ⟨g1, g3⟩, g2, g4⟩
      show cX0_arrange_12 N R 14 5 (nI c) (nI c) J = _
      unfold cX0_arrange_12
      simp (disch := first | assumption | omega) only [obs, qle, ↓lm1, l0, qn_add, pk_mul, n_le, n_lt, n_eq, n_sM, n_Ms, n_Mlt, n_Mle, n_ltM, n_leM, ↓reduceIte, eq_self, if_pos, if_neg, qx, p0_0, p0_1, p0_2, p0_3, p2_0, p4_0, p4_1, p4_2, p4_3, p4_4, p4_5, p8_1, p8_5, p8_6, p8_7, p14_0, p14_4, p14_5, p18_1, p18_2, p51_4, p51_5, p51_8, p51_9, p51_10, p51_11, p51_12, p51_14, r3, w3, r6, w6, r7, w7, r9, w9, r10, w10, r11, w11, r12, w12, r15, w15, r16, w16, r17, w17, r19, w19, r20, w20, r53, w53, r54, w54, r55, w55, r56, w56, r57, w57, r58, w58, r59, w59, r60, w60, a1, a5, pt2, rt2, wt2, pt3, rt3, wt3, pt4, rt4, wt4, pt5, rt5, wt5, pm2, rm2, wm2, pm3, rm3, wm3, pm4, rm4, wm4, pm5, rm5, wm5, l1, l2, l3, l5, l6, l7, l8, l10, l11, l12, l31, l36, l63, l100, l1000, l1440, l1000000, l16777216]
  obtain ⟨j1, j2, j3⟩ := hJ1
  refine ok_bind (ok_mono (knots7_ok (N := N) hN hL hc6 j1 j2) (fun J2 hJ2 => ?_))
  obtain ⟨k1, k2, k3⟩ := hJ2
  have hB2 : BR c (bB ns st cm gs) J2 := ⟨by rw [k2 3 (by omega)]; exact j1.1, fun a ha => by rw [k3 16 (by omega)]; exact j1.2 a ha⟩
  refine ok_bind (ok_mono (fillFewest_ok (N := N) hN hL hc6 hB2) (fun J3 hJ3 => ?_))
  obtain ⟨⟨V, hV, hI⟩, f1⟩ := hJ3
  refine ok_bindv (p14_5 hL) (ok_bindv (by rw [l0]; exact r17 hL (by omega)) (ok_let ?_))
  have hB4 : BR c (bB ns st cm gs) (qup J3 14 1 (J3 17 0)) := ⟨by rw [qup_off (by omega), f1 14 (by omega)]; exact hB2.1, fun a ha => by rw [qup_off (by omega), f1 16 (by omega)]; exact hB2.2 a ha⟩
  refine ok_bind (ok_mono (setOrder_ok (N := N) (V := V) hN hL hc6 hB4 hV (fun x hx => by rw [qup_off (by omega)]; exact hI x hx)) (fun J5 hJ5 => ?_))
  obtain ⟨⟨o, o1, o2⟩, o3⟩ := hJ5
  refine ok_some ⟨⟨by rw [o3 14 (by omega)]; exact hB4.1, fun a ha => by rw [o3 16 (by omega)]; exact hB4.2 a ha⟩, ⟨V, o, hV, o1, o2, ?_⟩, ?_, fun a ha => ?_⟩
  · rw [o3 14 (by omega), qup_on]
    exact (hI 0 pp).1
  · rw [o3 14 (by omega), qup_off (by omega), f1 14 (by omega)]; exact k1
  · rw [o3 a (by omega), qup_ne _ _ _ (by omega), f1 a (by omega), k3 a (by omega), j3 a (by omega) (by omega)]
