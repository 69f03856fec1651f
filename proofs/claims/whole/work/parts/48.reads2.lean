/-! CELL, BREACHES, BREACH -/
theorem hasRow_eq {R : qR} {I : qI} {d : Nat} (hL : LR R) (h : I 8 0 = nI d) (hd : d ≤ 42) (x : Int32) : fX4_hasRow R I 4 x = some (if 0 ≤ x.toInt ∧ x.toInt < d then 1 else 0) := by
  unfold fX4_hasRow
  rw [p4_3 hL]
  simp only [obs]
  rw [h]
  simp only [ilt, ile, i0, tI_nI (show d < 2147483648 by omega)]
  by_cases c0 : x.toInt < 0
  · rw [if_pos c0, if_neg (by omega)]
  · rw [if_neg c0]
    by_cases c1 : (d : Int) ≤ x.toInt
    · rw [if_pos c1, if_neg (by omega)]
    · rw [if_neg c1, if_pos (by omega)]
theorem hasColumn_eq {R : qR} {I : qI} {c : Nat} (h : I 4 6 = nI c) (hc : c ≤ 6) (x : Int32) : fX4_hasColumn R I 4 x = some (if 0 ≤ x.toInt ∧ x.toInt < c then 1 else 0) := by
  unfold fX4_hasColumn
  rw [h]
  simp only [ilt, ile, i0, tI_nI (show c < 2147483648 by omega)]
  by_cases c0 : x.toInt < 0
  · rw [if_pos c0, if_neg (by omega)]
  · rw [if_neg c0]
    by_cases c1 : (c : Int) ≤ x.toInt
    · rw [if_pos c1, if_neg (by omega)]
    · rw [if_neg c1, if_pos (by omega)]
theorem isColumn_eq {R : qR} {I : qI} {c : Nat} (h : I 111 10 = nI c) (hc : c ≤ 6) (x : Int32) : fX8_isColumn R I 111 x = some (if 0 ≤ x.toInt ∧ x.toInt < c then 1 else 0) := by
  unfold fX8_isColumn
  rw [h]
  simp only [ilt, ile, i0, tI_nI (show c < 2147483648 by omega)]
  by_cases c0 : x.toInt < 0
  · rw [if_pos c0, if_neg (by omega)]
  · rw [if_neg c0]
    by_cases c1 : (c : Int) ≤ x.toInt
    · rw [if_pos c1, if_neg (by omega)]
    · rw [if_neg c1, if_pos (by omega)]
theorem nat_of {x : Int32} {n : Nat} (h0 : 0 ≤ x.toInt) (h1 : x.toInt < n) : ∃ k, k < n ∧ x = nI k := ⟨x.toInt.toNat, by omega, nI_tn h0⟩
theorem sim_breach {N : Nat} {R : qR} {I : qI} (hN : 300000 ≤ N) (hL : LR R) (hD : TD I) (x y : Int32) : SimP (fun I => fX7_breach R I 0 x y) (fun I => fX8_breach N R I 111 x y) I := by
  obtain ⟨c, d, ns, o, st, cm, gs, rr, ⟨a1, a2, a3, a4⟩, ⟨b1, b2, b3, b4⟩, ⟨c1, c2, c3⟩, ⟨d1, d2⟩, ⟨e1, e2⟩, ⟨f1, f2⟩, ⟨g1, g2, g3⟩, h1, h2⟩ := hD
  have hc6 := a1.1
  unfold SimP
  show ∃ r, fX7_breach R I 0 x y = some r ∧ fX8_breach N R I 111 x y = some (r, qup I 111 0 0)
  rw [l0]
  generalize hJ : qup I 111 0 (nI 0) = J
  have rJ : ∀ a j, ¬ (a = 111 ∧ j = 0) → J a j = I a j := fun a j g2 => by rw [← hJ, qup_off (by omega)]
  have rJ2 : ∀ a, a ≠ 111 → J a = I a := fun a ha => by rw [← hJ, qup_ne _ _ _ ha]
  have hT : RT c ns st J := b1.congr (rJ _ _ (by omega)) (rJ2 _ (by omega)) (rJ2 _ (by omega))
  have hF : RF c ns cm gs J := by unfold RF; rw [rJ2 122 (by omega), rJ2 123 (by omega)]; exact b2
  unfold fX7_breach fX8_breach
  rw [p0_2 hL, l0]
  simp only [obs, qle]
  rw [hJ, hasColumn_eq c1 hc6, hasColumn_eq c1 hc6, isColumn_eq hT.1 hc6, isColumn_eq hT.1 hc6]
  simp only [obs]
  by_cases hx : 0 ≤ x.toInt ∧ x.toInt < c
  · rw [if_pos hx, if_neg (show ¬ (1 : Int32) = nI 0 by decide), if_neg (show ¬ (1 : Int32) = nI 0 by decide)]
    by_cases hy : 0 ≤ y.toInt ∧ y.toInt < c
    · rw [if_pos hy, if_neg (show ¬ (1 : Int32) = nI 0 by decide), if_neg (show ¬ (1 : Int32) = nI 0 by decide)]
      obtain ⟨i, hi, rfl⟩ := nat_of hx.1 hx.2
      obtain ⟨j, hj, rfl⟩ := nat_of hy.1 hy.2
      by_cases hlt : i < j
      · rw [if_pos (show nI i < nI j by rw [n_lt (by omega) (by omega)]; exact hlt), if_pos (show nI i < nI j by rw [n_lt (by omega) (by omega)]; exact hlt)]
        obtain ⟨q1, q2, q3⟩ := f1 i hi
        obtain ⟨r1, r2, r3⟩ := f1 j hj
        have hne := f2 i j hlt hj
        have wb := wouldBreach_eq (R := R) hL hc6 g1 r3 q3 (fun e => hne e.symm)
        have bv := breach_v (N := N) hN hL hT hF a2 q3 r3
        have hone := one_le (bB ns st cm gs) (o i) (o j)
        have x1 : J 125 i = nI (o i) := by rw [rJ2 125 (by omega)]; exact q2
        have x2 : J 125 j = nI (o j) := by rw [rJ2 125 (by omega)]; exact r2
        rw [p111_18 hL]
        simp only [obs]
        rw [r125 hL (by omega), r125 hL (by omega), x1, x2]
        simp only [obs]
        rw [bv]
        unfold fX4_isBreach
        rw [p4_4 hL]
        simp only [obs]
        rw [p14_0 hL]
        simp only [obs]
        rw [r15 hL (by omega), r15 hL (by omega), q1, r1]
        simp only [obs]
        rw [wb]
        simp only [obs]
        rcases (by omega : one (bB ns st cm gs) (o i) (o j) = 0 ∨ one (bB ns st cm gs) (o i) (o j) = 1) with e | e
        · rw [e, if_pos nar0]
          simp only [obs]
          rw [if_pos trivial, if_pos trivial]
          exact ⟨_, rfl, rfl⟩
        · rw [e, if_pos nar1]
          simp only [obs]
          rw [if_neg (show ¬ nI 1 = nI 0 by decide), if_neg (show ¬ nI 1 = nI 0 by decide)]
          exact ⟨_, rfl, rfl⟩
      · rw [if_neg (show ¬ nI i < nI j by rw [n_lt (by omega) (by omega)]; exact hlt), if_neg (show ¬ nI i < nI j by rw [n_lt (by omega) (by omega)]; exact hlt)]
        exact ⟨_, rfl, rfl⟩
    · rw [if_neg hy, if_pos (show (0 : Int32) = nI 0 by decide), if_pos (show (0 : Int32) = nI 0 by decide)]
      exact ⟨_, rfl, rfl⟩
  · rw [if_neg hx, if_pos (show (0 : Int32) = nI 0 by decide), if_pos (show (0 : Int32) = nI 0 by decide)]
    exact ⟨_, rfl, rfl⟩
theorem kk_one (b : Nat → Nat → Bool) (x y : Nat) : kk b x y = one b x y * one b y x := by
  unfold kk one
  by_cases h1 : b x y = true
  · by_cases h2 : b y x = true
    · rw [if_pos ⟨h1, h2⟩, if_pos h1, if_pos h2]
    · rw [if_neg (fun q => h2 q.2), if_neg h2, Nat.mul_zero]
  · rw [if_neg (fun q => h1 q.1), if_neg h1, Nat.zero_mul]
theorem knots8_eq {N c : Nat} {ns : Nat → Nat} {st cm gs : Nat → Nat → Nat} {R : qR} {I : qI} (hN : 300000 ≤ N) (hL : LR R) (hT : RT c ns st I) (hF : RF c ns cm gs I) (hM : wm c ns cm gs) : qloop (fun s => cX8_breaches_40 N R I 111 s.1 s.2) N (nI 0, nI 0) = some (nI (sm (fun j => sm (fun i => kk (bB ns st cm gs) i j) j) c)) := by
  have hc6 := hT.2.1
  have h10 := hT.1
  rw [← exch]
  refine qfor2 (fun i => (nI (sm (fun i => sm (fun j => if i < j then kk (bB ns st cm gs) i j else 0) c) i), nI i)) (by rw [sm]) _ c (by omega) (fun i hi => ?_) ?_
  · have inner : qloop (fun s => cX8_breaches_53 N R I 111 (nI i) s.1 s.2) N (nI (sm (fun i => sm (fun j => if i < j then kk (bB ns st cm gs) i j else 0) c) i), nI (i + 1)) = some (nI (sm (fun i => sm (fun j => if i < j then kk (bB ns st cm gs) i j else 0) c) (i + 1))) := by
      refine qfor2 (fun k => (nI (sm (fun i => sm (fun j => if i < j then kk (bB ns st cm gs) i j else 0) c) i + sm (fun j => if i < j then kk (bB ns st cm gs) i j else 0) (i + 1 + k)), nI (i + 1 + k))) ?_ _ (c - (i + 1)) (by omega) (fun k hk => ?_) ?_
      · have e : sm (fun j => if i < j then kk (bB ns st cm gs) i j else 0) (i + 1 + 0) = 0 := by
          rw [sm_congr (g := fun _ => 0) _ (fun k hk => by show (if i < k then kk (bB ns st cm gs) i k else 0) = 0; rw [if_neg (by omega)]), sm_zero]
        rw [e]
        rfl
      · have bv1 := breach_v (N := N) hN hL hT hF hM hi (show i + 1 + k < c by omega)
        have bv2 := breach_v (N := N) hN hL hT hF hM (show i + 1 + k < c by omega) hi
        have o1 := one_le (bB ns st cm gs) i (i + 1 + k)
        have o2 := one_le (bB ns st cm gs) (i + 1 + k) i
        have hk1 := kk_one (bB ns st cm gs) i (i + 1 + k)
        have e1 : sm (fun j => if i < j then kk (bB ns st cm gs) i j else 0) (i + 1 + (k + 1)) = sm (fun j => if i < j then kk (bB ns st cm gs) i j else 0) (i + 1 + k) + kk (bB ns st cm gs) i (i + 1 + k) := by
          rw [← Nat.add_assoc, sm, if_pos (by omega)]
        rcases (by omega : one (bB ns st cm gs) i (i + 1 + k) = 0 ∨ one (bB ns st cm gs) i (i + 1 + k) = 1) with q1 | q1
        · rw [q1] at bv1 hk1
          rw [hk1, Nat.zero_mul] at e1
          simp (disch := first | assumption | omega) only [obs, qle, ↓lm1, l0, qn_add, pk_mul, n_le, n_lt, n_eq, n_sM, n_Ms, n_Mlt, n_Mle, n_ltM, n_leM, ↓reduceIte, eq_self, if_pos, if_neg, qx, p111_3, p111_4, p111_5, p111_6, p111_7, p111_8, p111_11, p111_12, p111_13, p111_14, p111_15, p111_16, p111_17, p111_18, p111_19, p111_21, p111_22, p111_23, p111_24, p111_27, p111_28, p111_29, p111_30, p111_31, p111_32, p111_34, r112, w112, r113, w113, r114, w114, r115, w115, r116, w116, r117, w117, r118, w118, r119, w119, r120, w120, r121, w121, r122, w122, r123, w123, r124, w124, r125, w125, r126, w126, r127, w127, r128, w128, r129, w129, r130, w130, r131, w131, r132, w132, r133, w133, r134, w134, r135, w135, r136, w136, r137, w137, l1, l2, l3, l5, l6, l7, l8, l10, l11, l12, l31, l36, l63, l100, l1000, l1440, l1000000, l16777216, cX8_breaches_53, h10, bv1, e1, Nat.add_zero]
          simp only [Nat.add_assoc]
        · rcases (by omega : one (bB ns st cm gs) (i + 1 + k) i = 0 ∨ one (bB ns st cm gs) (i + 1 + k) i = 1) with q2 | q2
          · rw [q1] at bv1 hk1
            rw [q2] at bv2 hk1
            rw [hk1] at e1
            simp (disch := first | assumption | omega) only [obs, qle, ↓lm1, l0, qn_add, pk_mul, n_le, n_lt, n_eq, n_sM, n_Ms, n_Mlt, n_Mle, n_ltM, n_leM, ↓reduceIte, eq_self, if_pos, if_neg, qx, p111_3, p111_4, p111_5, p111_6, p111_7, p111_8, p111_11, p111_12, p111_13, p111_14, p111_15, p111_16, p111_17, p111_18, p111_19, p111_21, p111_22, p111_23, p111_24, p111_27, p111_28, p111_29, p111_30, p111_31, p111_32, p111_34, r112, w112, r113, w113, r114, w114, r115, w115, r116, w116, r117, w117, r118, w118, r119, w119, r120, w120, r121, w121, r122, w122, r123, w123, r124, w124, r125, w125, r126, w126, r127, w127, r128, w128, r129, w129, r130, w130, r131, w131, r132, w132, r133, w133, r134, w134, r135, w135, r136, w136, r137, w137, l1, l2, l3, l5, l6, l7, l8, l10, l11, l12, l31, l36, l63, l100, l1000, l1440, l1000000, l16777216, cX8_breaches_53, h10, bv1, bv2, e1, Nat.mul_zero, Nat.add_zero]
            simp only [Nat.add_assoc]
          · rw [q1] at bv1 hk1
            rw [q2] at bv2 hk1
            rw [hk1] at e1
            simp (disch := first | assumption | omega) only [obs, qle, ↓lm1, l0, qn_add, pk_mul, n_le, n_lt, n_eq, n_sM, n_Ms, n_Mlt, n_Mle, n_ltM, n_leM, ↓reduceIte, eq_self, if_pos, if_neg, qx, p111_3, p111_4, p111_5, p111_6, p111_7, p111_8, p111_11, p111_12, p111_13, p111_14, p111_15, p111_16, p111_17, p111_18, p111_19, p111_21, p111_22, p111_23, p111_24, p111_27, p111_28, p111_29, p111_30, p111_31, p111_32, p111_34, r112, w112, r113, w113, r114, w114, r115, w115, r116, w116, r117, w117, r118, w118, r119, w119, r120, w120, r121, w121, r122, w122, r123, w123, r124, w124, r125, w125, r126, w126, r127, w127, r128, w128, r129, w129, r130, w130, r131, w131, r132, w132, r133, w133, r134, w134, r135, w135, r136, w136, r137, w137, l1, l2, l3, l5, l6, l7, l8, l10, l11, l12, l31, l36, l63, l100, l1000, l1440, l1000000, l16777216, cX8_breaches_53, h10, bv1, bv2, e1]
            simp only [Nat.add_assoc]
      · have e : i + 1 + (c - (i + 1)) = c := by omega
        simp (disch := first | assumption | omega) only [obs, qle, ↓lm1, l0, qn_add, pk_mul, n_le, n_lt, n_eq, n_sM, n_Ms, n_Mlt, n_Mle, n_ltM, n_leM, ↓reduceIte, eq_self, if_pos, if_neg, qx, p111_3, p111_4, p111_5, p111_6, p111_7, p111_8, p111_11, p111_12, p111_13, p111_14, p111_15, p111_16, p111_17, p111_18, p111_19, p111_21, p111_22, p111_23, p111_24, p111_27, p111_28, p111_29, p111_30, p111_31, p111_32, p111_34, r112, w112, r113, w113, r114, w114, r115, w115, r116, w116, r117, w117, r118, w118, r119, w119, r120, w120, r121, w121, r122, w122, r123, w123, r124, w124, r125, w125, r126, w126, r127, w127, r128, w128, r129, w129, r130, w130, r131, w131, r132, w132, r133, w133, r134, w134, r135, w135, r136, w136, r137, w137, l1, l2, l3, l5, l6, l7, l8, l10, l11, l12, l31, l36, l63, l100, l1000, l1440, l1000000, l16777216, cX8_breaches_53, h10, e, sm]
    simp (disch := first | assumption | omega) only [obs, qle, ↓lm1, l0, qn_add, pk_mul, n_le, n_lt, n_eq, n_sM, n_Ms, n_Mlt, n_Mle, n_ltM, n_leM, ↓reduceIte, eq_self, if_pos, if_neg, qx, p111_3, p111_4, p111_5, p111_6, p111_7, p111_8, p111_11, p111_12, p111_13, p111_14, p111_15, p111_16, p111_17, p111_18, p111_19, p111_21, p111_22, p111_23, p111_24, p111_27, p111_28, p111_29, p111_30, p111_31, p111_32, p111_34, r112, w112, r113, w113, r114, w114, r115, w115, r116, w116, r117, w117, r118, w118, r119, w119, r120, w120, r121, w121, r122, w122, r123, w123, r124, w124, r125, w125, r126, w126, r127, w127, r128, w128, r129, w129, r130, w130, r131, w131, r132, w132, r133, w133, r134, w134, r135, w135, r136, w136, r137, w137, l1, l2, l3, l5, l6, l7, l8, l10, l11, l12, l31, l36, l63, l100, l1000, l1440, l1000000, l16777216, cX8_breaches_40, h10, inner]
  · simp (disch := first | assumption | omega) only [obs, qle, ↓lm1, l0, qn_add, pk_mul, n_le, n_lt, n_eq, n_sM, n_Ms, n_Mlt, n_Mle, n_ltM, n_leM, ↓reduceIte, eq_self, if_pos, if_neg, qx, p111_3, p111_4, p111_5, p111_6, p111_7, p111_8, p111_11, p111_12, p111_13, p111_14, p111_15, p111_16, p111_17, p111_18, p111_19, p111_21, p111_22, p111_23, p111_24, p111_27, p111_28, p111_29, p111_30, p111_31, p111_32, p111_34, r112, w112, r113, w113, r114, w114, r115, w115, r116, w116, r117, w117, r118, w118, r119, w119, r120, w120, r121, w121, r122, w122, r123, w123, r124, w124, r125, w125, r126, w126, r127, w127, r128, w128, r129, w129, r130, w130, r131, w131, r132, w132, r133, w133, r134, w134, r135, w135, r136, w136, r137, w137, l1, l2, l3, l5, l6, l7, l8, l10, l11, l12, l31, l36, l63, l100, l1000, l1440, l1000000, l16777216, cX8_breaches_40, h10]
theorem sim_breaches {N : Nat} {R : qR} {I : qI} (hN : 300000 ≤ N) (hL : LR R) (hD : TD I) (x : Int32) : SimP (fun I => fX7_breaches R I 0 x) (fun I => fX8_breaches N R I 111 x) I := by
  obtain ⟨c, d, ns, o, st, cm, gs, rr, ⟨a1, a2, a3, a4⟩, ⟨b1, b2, b3, b4⟩, ⟨c1, c2, c3⟩, ⟨d1, d2⟩, ⟨e1, e2⟩, ⟨f1, f2⟩, ⟨g1, g2, g3⟩, h1, h2⟩ := hD
  have hc6 := a1.1
  unfold SimP
  show ∃ r, fX7_breaches R I 0 x = some r ∧ fX8_breaches N R I 111 x = some (r, qup I 111 0 0)
  rw [l0]
  generalize hJ : qup I 111 0 (nI 0) = J
  have rJ : ∀ a j, ¬ (a = 111 ∧ j = 0) → J a j = I a j := fun a j g2 => by rw [← hJ, qup_off (by omega)]
  have rJ2 : ∀ a, a ≠ 111 → J a = I a := fun a ha => by rw [← hJ, qup_ne _ _ _ ha]
  have hT : RT c ns st J := b1.congr (rJ _ _ (by omega)) (rJ2 _ (by omega)) (rJ2 _ (by omega))
  have hF : RF c ns cm gs J := by unfold RF; rw [rJ2 122 (by omega), rJ2 123 (by omega)]; exact b2
  have e1 := knots8_eq (N := N) hN hL hT hF a2
  have e2 := breachesOf_eq (N := N) (x := 125) (p := o) hN hL hT hF a2 (hL.l 125 rfl) (fun i hi => by rw [rJ2 125 (by omega)]; exact ⟨(f1 i hi).2.1, (f1 i hi).2.2⟩)
  unfold fX7_breaches fX8_breaches fX4_isMade fX4_countBreaches fX4_countKnots
  rw [p0_2 hL, p111_18 hL, l0]
  simp only [obs, qle]
  rw [p4_4 hL]
  simp only [obs]
  rw [hJ, c1, hT.1, e1, e2, g2, g3]
  simp only [obs]
  by_cases hc0 : c = 0
  · subst hc0
    rw [if_pos (show nI 0 ≤ nI 0 by decide), if_pos (show nI 0 = nI 0 from rfl)]
    simp only [obs]
    exact ⟨_, rfl, rfl⟩
  · rw [if_neg (show ¬ nI c ≤ nI 0 by rw [n_le (by omega) (by omega)]; omega), if_neg (show ¬ nI c = nI 0 by rw [n_eq (by omega) (by omega)]; omega)]
    simp only [obs]
    rw [if_neg (show ¬ (1 : Int32) = nI 0 by decide)]
    by_cases q1 : x < nI 0
    · rw [if_pos q1, if_pos q1]
      exact ⟨_, rfl, rfl⟩
    · rw [if_neg q1, if_neg q1]
      by_cases q2 : x ≤ 1
      · rw [if_pos q2, if_pos q2]
        by_cases q3 : x = nI 0
        · rw [if_pos q3, if_pos q3]
          exact ⟨_, rfl, rfl⟩
        · rw [if_neg q3, if_neg q3]
          exact ⟨_, rfl, rfl⟩
      · rw [if_neg q2, if_neg q2]
        exact ⟨_, rfl, rfl⟩
theorem sim_cell {N : Nat} {R : qR} {I : qI} (hN : 300000 ≤ N) (hL : LR R) (hD : TD I) (x y z : Int32) : SimP (fun I => fX7_cell N R I 0 x y z) (fun I => fX8_cell N R I 111 x y z) I := by
  obtain ⟨c, d, ns, o, st, cm, gs, rr, ⟨a1, a2, a3, a4⟩, ⟨b1, b2, b3, b4⟩, ⟨c1, c2, c3⟩, ⟨d1, d2⟩, ⟨e1, e2⟩, ⟨f1, f2⟩, ⟨g1, g2, g3⟩, h1, h2⟩ := hD
  have hc6 := a1.1
  unfold SimP
  show ∃ r, fX7_cell N R I 0 x y z = some r ∧ fX8_cell N R I 111 x y z = some (r, qup I 111 0 0)
  rw [l0]
  generalize hJ : qup I 111 0 (nI 0) = J
  have rJ : ∀ a j, ¬ (a = 111 ∧ j = 0) → J a j = I a j := fun a j g2 => by rw [← hJ, qup_off (by omega)]
  have rJ2 : ∀ a, a ≠ 111 → J a = I a := fun a ha => by rw [← hJ, qup_ne _ _ _ ha]
  have j10 : J 111 10 = nI c := by rw [rJ _ _ (by omega)]; exact b1.1
  have j9 : J 111 9 = nI d := by rw [rJ _ _ (by omega)]; exact c3
  unfold fX7_cell fX8_cell
  rw [p0_2 hL, l0]
  simp only [obs, qle]
  rw [hJ, hasRow_eq hL c2 a4, hasColumn_eq c1 hc6, isColumn_eq j10 hc6, j9]
  simp only [obs]
  by_cases q0 : x.toInt < 0
  · rw [if_neg (show ¬ (0 ≤ x.toInt ∧ x.toInt < d) by omega), if_pos (show (0 : Int32) = nI 0 by decide), if_pos (show x < nI 0 by rw [← l0, ilt, i0]; exact q0)]
    exact ⟨_, rfl, rfl⟩
  · rw [if_neg (show ¬ x < nI 0 by rw [← l0, ilt, i0]; exact q0)]
    by_cases q1 : (d : Int) ≤ x.toInt
    · rw [if_neg (show ¬ (0 ≤ x.toInt ∧ x.toInt < d) by omega), if_pos (show (0 : Int32) = nI 0 by decide), if_pos (show nI d ≤ x by rw [ile, tI_nI (by omega)]; exact q1)]
      exact ⟨_, rfl, rfl⟩
    · rw [if_pos (show 0 ≤ x.toInt ∧ x.toInt < d by omega), if_neg (show ¬ (1 : Int32) = nI 0 by decide), if_neg (show ¬ nI d ≤ x by rw [ile, tI_nI (by omega)]; exact q1)]
      obtain ⟨r, hr, rfl⟩ := nat_of (x := x) (n := d) (by omega) (by omega)
      by_cases q2 : 0 ≤ y.toInt ∧ y.toInt < c
      · rw [if_pos q2, if_neg (show ¬ (1 : Int32) = nI 0 by decide), if_neg (show ¬ (1 : Int32) = nI 0 by decide)]
        obtain ⟨j, hj, rfl⟩ := nat_of q2.1 q2.2
        by_cases q3 : z < nI 0
        · rw [if_pos q3, if_pos q3]
          exact ⟨_, rfl, rfl⟩
        · rw [if_neg q3, if_neg q3]
          by_cases q4 : z ≤ 1
          · rw [if_pos q4, if_pos q4]
            obtain ⟨o1, o2, o3⟩ := f1 j hj
            obtain ⟨m, hm⟩ : ∃ m, o j = m := ⟨_, rfl⟩
            rw [hm] at o1 o2 o3
            have hm6 : m < 6 := by omega
            have hn2 := a3 m o3
            have hn7 := a1.2.1 m o3
            have x1 : J 125 j = nI m := by rw [rJ2 125 (by omega)]; exact o2
            have cmn := (b3 m o3).1
            have rns : J 120 m = nI (ns m) := by rw [rJ2 120 (by omega)]; exact (b1.2.2.1 m o3).1
            have first7 : fX4_firstRow R I 4 (nI m) = some (nI (rr m 0)) := by
              have := (e1 m 0 o3 (by omega)).1
              unfold fX4_firstRow
              rw [Nat.add_zero] at this
              simp (disch := first | assumption | omega) only [obs, qle, ↓lm1, l0, qn_add, pk_mul, n_le, n_lt, n_eq, n_sM, n_Ms, n_Mlt, n_Mle, n_ltM, n_leM, ↓reduceIte, eq_self, if_pos, if_neg, qx, p0_0, p0_1, p0_2, p0_3, p2_0, p4_0, p4_1, p4_2, p4_3, p4_4, p4_5, p8_1, p8_5, p8_6, p8_7, p14_0, p14_4, p14_5, p18_1, p18_2, p51_4, p51_5, p51_8, p51_9, p51_10, p51_11, p51_12, p51_14, r3, w3, r6, w6, r7, w7, r9, w9, r10, w10, r11, w11, r12, w12, r15, w15, r16, w16, r17, w17, r19, w19, r20, w20, r53, w53, r54, w54, r55, w55, r56, w56, r57, w57, r58, w58, r59, w59, r60, w60, a1, a5, pt2, rt2, wt2, pt3, rt3, wt3, pt4, rt4, wt4, pt5, rt5, wt5, pm2, rm2, wm2, pm3, rm3, wm3, pm4, rm4, wm4, pm5, rm5, wm5, l1, l2, l3, l5, l6, l7, l8, l10, l11, l12, l31, l36, l63, l100, l1000, l1440, l1000000, l16777216, this]
            have last7 : fX4_lastRow R I 4 (nI m) = some (nI (rr m (ns m - 1))) := by
              have h3 := (e1 m (ns m - 1) o3 (by omega)).1
              have h4 : m * 7 + ns m - 1 = m * 7 + (ns m - 1) := by omega
              unfold fX4_lastRow
              simp (disch := first | assumption | omega) only [obs, qle, ↓lm1, l0, qn_add, pk_mul, n_le, n_lt, n_eq, n_sM, n_Ms, n_Mlt, n_Mle, n_ltM, n_leM, ↓reduceIte, eq_self, if_pos, if_neg, qx, p0_0, p0_1, p0_2, p0_3, p2_0, p4_0, p4_1, p4_2, p4_3, p4_4, p4_5, p8_1, p8_5, p8_6, p8_7, p14_0, p14_4, p14_5, p18_1, p18_2, p51_4, p51_5, p51_8, p51_9, p51_10, p51_11, p51_12, p51_14, r3, w3, r6, w6, r7, w7, r9, w9, r10, w10, r11, w11, r12, w12, r15, w15, r16, w16, r17, w17, r19, w19, r20, w20, r53, w53, r54, w54, r55, w55, r56, w56, r57, w57, r58, w58, r59, w59, r60, w60, a1, a5, pt2, rt2, wt2, pt3, rt3, wt3, pt4, rt4, wt4, pt5, rt5, wt5, pm2, rm2, wm2, pm3, rm3, wm3, pm4, rm4, wm4, pm5, rm5, wm5, l1, l2, l3, l5, l6, l7, l8, l10, l11, l12, l31, l36, l63, l100, l1000, l1440, l1000000, l16777216, cmn, qn_sub, h4, h3]
            have first8 : fX8_first R J 111 (nI m) = some (nI (rr m 0)) := by
              have := (e1 m 0 o3 (by omega)).2.1
              rw [Nat.add_zero, ← rJ2 124 (by omega)] at this
              unfold fX8_first
              simp (disch := first | assumption | omega) only [obs, qle, ↓lm1, l0, qn_add, pk_mul, n_le, n_lt, n_eq, n_sM, n_Ms, n_Mlt, n_Mle, n_ltM, n_leM, ↓reduceIte, eq_self, if_pos, if_neg, qx, p111_3, p111_4, p111_5, p111_6, p111_7, p111_8, p111_11, p111_12, p111_13, p111_14, p111_15, p111_16, p111_17, p111_18, p111_19, p111_21, p111_22, p111_23, p111_24, p111_27, p111_28, p111_29, p111_30, p111_31, p111_32, p111_34, r112, w112, r113, w113, r114, w114, r115, w115, r116, w116, r117, w117, r118, w118, r119, w119, r120, w120, r121, w121, r122, w122, r123, w123, r124, w124, r125, w125, r126, w126, r127, w127, r128, w128, r129, w129, r130, w130, r131, w131, r132, w132, r133, w133, r134, w134, r135, w135, r136, w136, r137, w137, l1, l2, l3, l5, l6, l7, l8, l10, l11, l12, l31, l36, l63, l100, l1000, l1440, l1000000, l16777216, this]
            have last8 : fX8_last R J 111 (nI m) = some (nI (rr m (ns m - 1))) := by
              have h3 := (e1 m (ns m - 1) o3 (by omega)).2.1
              rw [← rJ2 124 (by omega)] at h3
              have h4 : 7 * m + ns m - 1 = 7 * m + (ns m - 1) := by omega
              unfold fX8_last
              simp (disch := first | assumption | omega) only [obs, qle, ↓lm1, l0, qn_add, pk_mul, n_le, n_lt, n_eq, n_sM, n_Ms, n_Mlt, n_Mle, n_ltM, n_leM, ↓reduceIte, eq_self, if_pos, if_neg, qx, p111_3, p111_4, p111_5, p111_6, p111_7, p111_8, p111_11, p111_12, p111_13, p111_14, p111_15, p111_16, p111_17, p111_18, p111_19, p111_21, p111_22, p111_23, p111_24, p111_27, p111_28, p111_29, p111_30, p111_31, p111_32, p111_34, r112, w112, r113, w113, r114, w114, r115, w115, r116, w116, r117, w117, r118, w118, r119, w119, r120, w120, r121, w121, r122, w122, r123, w123, r124, w124, r125, w125, r126, w126, r127, w127, r128, w128, r129, w129, r130, w130, r131, w131, r132, w132, r133, w133, r134, w134, r135, w135, r136, w136, r137, w137, l1, l2, l3, l5, l6, l7, l8, l10, l11, l12, l31, l36, l63, l100, l1000, l1440, l1000000, l16777216, rns, qn_sub, h4, h3]
            have b0 := (e1 m 0 o3 (by omega)).2.2
            have bl := (e1 m (ns m - 1) o3 (by omega)).2.2
            rw [p111_18 hL]
            simp only [obs]
            rw [r125 hL (by omega), x1]
            simp only [obs]
            -- by the answer asked for
            have key : ∀ (coming : Int32) (W : Nat → Nat → Nat), (coming = nI 1 ∧ z = nI 0 ∧ W = cm ∨ coming = nI 0 ∧ ¬ z = nI 0 ∧ W = gs) → ∃ v, fX4_read N R I 4 (nI r) (nI j) coming = some v ∧ ((qloop (fun s => cX8_cell_48 N R J 111 (nI r) z (nI m) s) N (nI 0)).bind fun o21 => qx o21 (fun e22 => (fX8_first R J 111 (nI m)).bind fun y24 => if nI r ≤ y24 then some (-1, J) else (fX8_last R J 111 (nI m)).bind fun y26 => if y26 ≤ nI r then some (-1, J) else some (-2, J)) (fun q23 => some q23)) = some (v, J) := by
              intro coming W hW
              have rd7 : ∀ i, i < ns m → cX4_read_36 N R I 4 (nI r) coming (nI m) (nI i) = if rr m i = r then some (.inr (.inr (nI (W m i)))) else some (.inl (nI (i + 1))) := by
                intro i hi
                have h3 := e1 m i o3 hi
                have h4 := (b4 m o3).1 i hi
                have h5 := h3.2.2
                unfold cX4_read_36
                rcases hW with ⟨w1, w2, w3⟩ | ⟨w1, w2, w3⟩
                · subst w1 w3
                  by_cases he : rr m i = r
                  · rw [if_pos he]
                    simp (disch := first | assumption | omega) only [obs, qle, ↓lm1, l0, qn_add, pk_mul, n_le, n_lt, n_eq, n_sM, n_Ms, n_Mlt, n_Mle, n_ltM, n_leM, ↓reduceIte, eq_self, if_pos, if_neg, qx, p0_0, p0_1, p0_2, p0_3, p2_0, p4_0, p4_1, p4_2, p4_3, p4_4, p4_5, p8_1, p8_5, p8_6, p8_7, p14_0, p14_4, p14_5, p18_1, p18_2, p51_4, p51_5, p51_8, p51_9, p51_10, p51_11, p51_12, p51_14, r3, w3, r6, w6, r7, w7, r9, w9, r10, w10, r11, w11, r12, w12, r15, w15, r16, w16, r17, w17, r19, w19, r20, w20, r53, w53, r54, w54, r55, w55, r56, w56, r57, w57, r58, w58, r59, w59, r60, w60, a1, a5, pt2, rt2, wt2, pt3, rt3, wt3, pt4, rt4, wt4, pt5, rt5, wt5, pm2, rm2, wm2, pm3, rm3, wm3, pm4, rm4, wm4, pm5, rm5, wm5, l1, l2, l3, l5, l6, l7, l8, l10, l11, l12, l31, l36, l63, l100, l1000, l1440, l1000000, l16777216, cmn, h3.1, h4.1]
                  · rw [if_neg he]
                    simp (disch := first | assumption | omega) only [obs, qle, ↓lm1, l0, qn_add, pk_mul, n_le, n_lt, n_eq, n_sM, n_Ms, n_Mlt, n_Mle, n_ltM, n_leM, ↓reduceIte, eq_self, if_pos, if_neg, qx, p0_0, p0_1, p0_2, p0_3, p2_0, p4_0, p4_1, p4_2, p4_3, p4_4, p4_5, p8_1, p8_5, p8_6, p8_7, p14_0, p14_4, p14_5, p18_1, p18_2, p51_4, p51_5, p51_8, p51_9, p51_10, p51_11, p51_12, p51_14, r3, w3, r6, w6, r7, w7, r9, w9, r10, w10, r11, w11, r12, w12, r15, w15, r16, w16, r17, w17, r19, w19, r20, w20, r53, w53, r54, w54, r55, w55, r56, w56, r57, w57, r58, w58, r59, w59, r60, w60, a1, a5, pt2, rt2, wt2, pt3, rt3, wt3, pt4, rt4, wt4, pt5, rt5, wt5, pm2, rm2, wm2, pm3, rm3, wm3, pm4, rm4, wm4, pm5, rm5, wm5, l1, l2, l3, l5, l6, l7, l8, l10, l11, l12, l31, l36, l63, l100, l1000, l1440, l1000000, l16777216, cmn, h3.1]
                · subst w1 w3
                  by_cases he : rr m i = r
                  · rw [if_pos he]
                    simp (disch := first | assumption | omega) only [obs, qle, ↓lm1, l0, qn_add, pk_mul, n_le, n_lt, n_eq, n_sM, n_Ms, n_Mlt, n_Mle, n_ltM, n_leM, ↓reduceIte, eq_self, if_pos, if_neg, qx, p0_0, p0_1, p0_2, p0_3, p2_0, p4_0, p4_1, p4_2, p4_3, p4_4, p4_5, p8_1, p8_5, p8_6, p8_7, p14_0, p14_4, p14_5, p18_1, p18_2, p51_4, p51_5, p51_8, p51_9, p51_10, p51_11, p51_12, p51_14, r3, w3, r6, w6, r7, w7, r9, w9, r10, w10, r11, w11, r12, w12, r15, w15, r16, w16, r17, w17, r19, w19, r20, w20, r53, w53, r54, w54, r55, w55, r56, w56, r57, w57, r58, w58, r59, w59, r60, w60, a1, a5, pt2, rt2, wt2, pt3, rt3, wt3, pt4, rt4, wt4, pt5, rt5, wt5, pm2, rm2, wm2, pm3, rm3, wm3, pm4, rm4, wm4, pm5, rm5, wm5, l1, l2, l3, l5, l6, l7, l8, l10, l11, l12, l31, l36, l63, l100, l1000, l1440, l1000000, l16777216, cmn, h3.1, h4.2.1]
                  · rw [if_neg he]
                    simp (disch := first | assumption | omega) only [obs, qle, ↓lm1, l0, qn_add, pk_mul, n_le, n_lt, n_eq, n_sM, n_Ms, n_Mlt, n_Mle, n_ltM, n_leM, ↓reduceIte, eq_self, if_pos, if_neg, qx, p0_0, p0_1, p0_2, p0_3, p2_0, p4_0, p4_1, p4_2, p4_3, p4_4, p4_5, p8_1, p8_5, p8_6, p8_7, p14_0, p14_4, p14_5, p18_1, p18_2, p51_4, p51_5, p51_8, p51_9, p51_10, p51_11, p51_12, p51_14, r3, w3, r6, w6, r7, w7, r9, w9, r10, w10, r11, w11, r12, w12, r15, w15, r16, w16, r17, w17, r19, w19, r20, w20, r53, w53, r54, w54, r55, w55, r56, w56, r57, w57, r58, w58, r59, w59, r60, w60, a1, a5, pt2, rt2, wt2, pt3, rt3, wt3, pt4, rt4, wt4, pt5, rt5, wt5, pm2, rm2, wm2, pm3, rm3, wm3, pm4, rm4, wm4, pm5, rm5, wm5, l1, l2, l3, l5, l6, l7, l8, l10, l11, l12, l31, l36, l63, l100, l1000, l1440, l1000000, l16777216, cmn, h3.1]
              have rd8 : ∀ i, i < ns m → cX8_cell_48 N R J 111 (nI r) z (nI m) (nI i) = if rr m i = r then some (.inr (.inr (nI (W m i), J))) else some (.inl (nI (i + 1))) := by
                intro i hi
                have h3 := e1 m i o3 hi
                have h34 : J 124 (7 * m + i) = nI (rr m i) := by rw [rJ2 124 (by omega)]; exact h3.2.1
                have h4 := b2 m i o3 hi
                have h42 : J 122 (7 * m + i) = nI (cm m i) := by rw [rJ2 122 (by omega)]; exact h4.1
                have h43 : J 123 (7 * m + i) = nI (gs m i) := by rw [rJ2 123 (by omega)]; exact h4.2
                have h5 := h3.2.2
                unfold cX8_cell_48
                rcases hW with ⟨w1, w2, w3⟩ | ⟨w1, w2, w3⟩
                · subst w2 w3
                  by_cases he : rr m i = r
                  · rw [if_pos he]
                    simp (disch := first | assumption | omega) only [obs, qle, ↓lm1, l0, qn_add, pk_mul, n_le, n_lt, n_eq, n_sM, n_Ms, n_Mlt, n_Mle, n_ltM, n_leM, ↓reduceIte, eq_self, if_pos, if_neg, qx, p111_3, p111_4, p111_5, p111_6, p111_7, p111_8, p111_11, p111_12, p111_13, p111_14, p111_15, p111_16, p111_17, p111_18, p111_19, p111_21, p111_22, p111_23, p111_24, p111_27, p111_28, p111_29, p111_30, p111_31, p111_32, p111_34, r112, w112, r113, w113, r114, w114, r115, w115, r116, w116, r117, w117, r118, w118, r119, w119, r120, w120, r121, w121, r122, w122, r123, w123, r124, w124, r125, w125, r126, w126, r127, w127, r128, w128, r129, w129, r130, w130, r131, w131, r132, w132, r133, w133, r134, w134, r135, w135, r136, w136, r137, w137, l1, l2, l3, l5, l6, l7, l8, l10, l11, l12, l31, l36, l63, l100, l1000, l1440, l1000000, l16777216, rns, h34, h42]
                  · rw [if_neg he]
                    simp (disch := first | assumption | omega) only [obs, qle, ↓lm1, l0, qn_add, pk_mul, n_le, n_lt, n_eq, n_sM, n_Ms, n_Mlt, n_Mle, n_ltM, n_leM, ↓reduceIte, eq_self, if_pos, if_neg, qx, p111_3, p111_4, p111_5, p111_6, p111_7, p111_8, p111_11, p111_12, p111_13, p111_14, p111_15, p111_16, p111_17, p111_18, p111_19, p111_21, p111_22, p111_23, p111_24, p111_27, p111_28, p111_29, p111_30, p111_31, p111_32, p111_34, r112, w112, r113, w113, r114, w114, r115, w115, r116, w116, r117, w117, r118, w118, r119, w119, r120, w120, r121, w121, r122, w122, r123, w123, r124, w124, r125, w125, r126, w126, r127, w127, r128, w128, r129, w129, r130, w130, r131, w131, r132, w132, r133, w133, r134, w134, r135, w135, r136, w136, r137, w137, l1, l2, l3, l5, l6, l7, l8, l10, l11, l12, l31, l36, l63, l100, l1000, l1440, l1000000, l16777216, rns, h34]
                · subst w3
                  by_cases he : rr m i = r
                  · rw [if_pos he]
                    simp (disch := first | assumption | omega) only [obs, qle, ↓lm1, l0, qn_add, pk_mul, n_le, n_lt, n_eq, n_sM, n_Ms, n_Mlt, n_Mle, n_ltM, n_leM, ↓reduceIte, eq_self, if_pos, if_neg, qx, p111_3, p111_4, p111_5, p111_6, p111_7, p111_8, p111_11, p111_12, p111_13, p111_14, p111_15, p111_16, p111_17, p111_18, p111_19, p111_21, p111_22, p111_23, p111_24, p111_27, p111_28, p111_29, p111_30, p111_31, p111_32, p111_34, r112, w112, r113, w113, r114, w114, r115, w115, r116, w116, r117, w117, r118, w118, r119, w119, r120, w120, r121, w121, r122, w122, r123, w123, r124, w124, r125, w125, r126, w126, r127, w127, r128, w128, r129, w129, r130, w130, r131, w131, r132, w132, r133, w133, r134, w134, r135, w135, r136, w136, r137, w137, l1, l2, l3, l5, l6, l7, l8, l10, l11, l12, l31, l36, l63, l100, l1000, l1440, l1000000, l16777216, rns, h34, h43]
                  · rw [if_neg he]
                    simp (disch := first | assumption | omega) only [obs, qle, ↓lm1, l0, qn_add, pk_mul, n_le, n_lt, n_eq, n_sM, n_Ms, n_Mlt, n_Mle, n_ltM, n_leM, ↓reduceIte, eq_self, if_pos, if_neg, qx, p111_3, p111_4, p111_5, p111_6, p111_7, p111_8, p111_11, p111_12, p111_13, p111_14, p111_15, p111_16, p111_17, p111_18, p111_19, p111_21, p111_22, p111_23, p111_24, p111_27, p111_28, p111_29, p111_30, p111_31, p111_32, p111_34, r112, w112, r113, w113, r114, w114, r115, w115, r116, w116, r117, w117, r118, w118, r119, w119, r120, w120, r121, w121, r122, w122, r123, w123, r124, w124, r125, w125, r126, w126, r127, w127, r128, w128, r129, w129, r130, w130, r131, w131, r132, w132, r133, w133, r134, w134, r135, w135, r136, w136, r137, w137, l1, l2, l3, l5, l6, l7, l8, l10, l11, l12, l31, l36, l63, l100, l1000, l1440, l1000000, l16777216, rns, h34]
              by_cases hex : ∃ i, i < ns m ∧ rr m i = r
              · obtain ⟨i, ⟨hi, he⟩, hl⟩ := pk_least (fun i => i < ns m ∧ rr m i = r) hex
                have t7 : qloop (fun s => cX4_read_36 N R I 4 (nI r) coming (nI m) s) N (nI 0) = some (.inr (nI (W m i))) := qfor (fun k => nI k) _ i (by omega) (fun k hk => by
                  show cX4_read_36 N R I 4 (nI r) coming (nI m) (nI k) = _
                  rw [rd7 k (by omega), if_neg (fun q => hl k hk ⟨by omega, q⟩)]) (by
                  show cX4_read_36 N R I 4 (nI r) coming (nI m) (nI i) = _
                  rw [rd7 i hi, if_pos he])
                have t8 : qloop (fun s => cX8_cell_48 N R J 111 (nI r) z (nI m) s) N (nI 0) = some (.inr (nI (W m i), J)) := qfor (fun k => nI k) _ i (by omega) (fun k hk => by
                  show cX8_cell_48 N R J 111 (nI r) z (nI m) (nI k) = _
                  rw [rd8 k (by omega), if_neg (fun q => hl k hk ⟨by omega, q⟩)]) (by
                  show cX8_cell_48 N R J 111 (nI r) z (nI m) (nI i) = _
                  rw [rd8 i hi, if_pos he])
                refine ⟨nI (W m i), ?_, by rw [t8]; rfl⟩
                have lo : rr m 0 ≤ r := by
                  by_cases e0 : i = 0
                  · subst e0; omega
                  · have := e2 m 0 i o3 hi (by omega); omega
                have hi2 : r ≤ rr m (ns m - 1) := by
                  by_cases e0 : i = ns m - 1
                  · subst e0; omega
                  · have := e2 m i (ns m - 1) o3 (by omega) (by omega); omega
                unfold fX4_read
                simp (disch := first | assumption | omega) only [obs, qle, ↓lm1, l0, qn_add, pk_mul, n_le, n_lt, n_eq, n_sM, n_Ms, n_Mlt, n_Mle, n_ltM, n_leM, ↓reduceIte, eq_self, if_pos, if_neg, qx, p0_0, p0_1, p0_2, p0_3, p2_0, p4_0, p4_1, p4_2, p4_3, p4_4, p4_5, p8_1, p8_5, p8_6, p8_7, p14_0, p14_4, p14_5, p18_1, p18_2, p51_4, p51_5, p51_8, p51_9, p51_10, p51_11, p51_12, p51_14, r3, w3, r6, w6, r7, w7, r9, w9, r10, w10, r11, w11, r12, w12, r15, w15, r16, w16, r17, w17, r19, w19, r20, w20, r53, w53, r54, w54, r55, w55, r56, w56, r57, w57, r58, w58, r59, w59, r60, w60, a1, a5, pt2, rt2, wt2, pt3, rt3, wt3, pt4, rt4, wt4, pt5, rt5, wt5, pm2, rm2, wm2, pm3, rm3, wm3, pm4, rm4, wm4, pm5, rm5, wm5, l1, l2, l3, l5, l6, l7, l8, l10, l11, l12, l31, l36, l63, l100, l1000, l1440, l1000000, l16777216, o1, first7, last7, t7]
              · have t7 : qloop (fun s => cX4_read_36 N R I 4 (nI r) coming (nI m) s) N (nI 0) = some (.inl ()) := qfor (fun k => nI k) _ (ns m) (by omega) (fun k hk => by
                  show cX4_read_36 N R I 4 (nI r) coming (nI m) (nI k) = _
                  rw [rd7 k (by omega), if_neg (fun q => hex ⟨k, hk, q⟩)]) (by
                  show cX4_read_36 N R I 4 (nI r) coming (nI m) (nI (ns m)) = _
                  unfold cX4_read_36
                  simp (disch := first | assumption | omega) only [obs, qle, ↓lm1, l0, qn_add, pk_mul, n_le, n_lt, n_eq, n_sM, n_Ms, n_Mlt, n_Mle, n_ltM, n_leM, ↓reduceIte, eq_self, if_pos, if_neg, qx, p0_0, p0_1, p0_2, p0_3, p2_0, p4_0, p4_1, p4_2, p4_3, p4_4, p4_5, p8_1, p8_5, p8_6, p8_7, p14_0, p14_4, p14_5, p18_1, p18_2, p51_4, p51_5, p51_8, p51_9, p51_10, p51_11, p51_12, p51_14, r3, w3, r6, w6, r7, w7, r9, w9, r10, w10, r11, w11, r12, w12, r15, w15, r16, w16, r17, w17, r19, w19, r20, w20, r53, w53, r54, w54, r55, w55, r56, w56, r57, w57, r58, w58, r59, w59, r60, w60, a1, a5, pt2, rt2, wt2, pt3, rt3, wt3, pt4, rt4, wt4, pt5, rt5, wt5, pm2, rm2, wm2, pm3, rm3, wm3, pm4, rm4, wm4, pm5, rm5, wm5, l1, l2, l3, l5, l6, l7, l8, l10, l11, l12, l31, l36, l63, l100, l1000, l1440, l1000000, l16777216, cmn])
                have t8 : qloop (fun s => cX8_cell_48 N R J 111 (nI r) z (nI m) s) N (nI 0) = some (.inl ()) := qfor (fun k => nI k) _ (ns m) (by omega) (fun k hk => by
                  show cX8_cell_48 N R J 111 (nI r) z (nI m) (nI k) = _
                  rw [rd8 k (by omega), if_neg (fun q => hex ⟨k, hk, q⟩)]) (by
                  show cX8_cell_48 N R J 111 (nI r) z (nI m) (nI (ns m)) = _
                  unfold cX8_cell_48
                  simp (disch := first | assumption | omega) only [obs, qle, ↓lm1, l0, qn_add, pk_mul, n_le, n_lt, n_eq, n_sM, n_Ms, n_Mlt, n_Mle, n_ltM, n_leM, ↓reduceIte, eq_self, if_pos, if_neg, qx, p111_3, p111_4, p111_5, p111_6, p111_7, p111_8, p111_11, p111_12, p111_13, p111_14, p111_15, p111_16, p111_17, p111_18, p111_19, p111_21, p111_22, p111_23, p111_24, p111_27, p111_28, p111_29, p111_30, p111_31, p111_32, p111_34, r112, w112, r113, w113, r114, w114, r115, w115, r116, w116, r117, w117, r118, w118, r119, w119, r120, w120, r121, w121, r122, w122, r123, w123, r124, w124, r125, w125, r126, w126, r127, w127, r128, w128, r129, w129, r130, w130, r131, w131, r132, w132, r133, w133, r134, w134, r135, w135, r136, w136, r137, w137, l1, l2, l3, l5, l6, l7, l8, l10, l11, l12, l31, l36, l63, l100, l1000, l1440, l1000000, l16777216, rns])
                have n0 : rr m 0 ≠ r := fun q => hex ⟨0, by omega, q⟩
                have n1 : rr m (ns m - 1) ≠ r := fun q => hex ⟨ns m - 1, by omega, q⟩
                rw [t8, first8, last8]
                simp only [obs, qx]
                unfold fX4_read
                by_cases z1 : r < rr m 0
                · refine ⟨-1, ?_, ?_⟩
                  · simp (disch := first | assumption | omega) only [obs, qle, ↓lm1, l0, qn_add, pk_mul, n_le, n_lt, n_eq, n_sM, n_Ms, n_Mlt, n_Mle, n_ltM, n_leM, ↓reduceIte, eq_self, if_pos, if_neg, qx, p0_0, p0_1, p0_2, p0_3, p2_0, p4_0, p4_1, p4_2, p4_3, p4_4, p4_5, p8_1, p8_5, p8_6, p8_7, p14_0, p14_4, p14_5, p18_1, p18_2, p51_4, p51_5, p51_8, p51_9, p51_10, p51_11, p51_12, p51_14, r3, w3, r6, w6, r7, w7, r9, w9, r10, w10, r11, w11, r12, w12, r15, w15, r16, w16, r17, w17, r19, w19, r20, w20, r53, w53, r54, w54, r55, w55, r56, w56, r57, w57, r58, w58, r59, w59, r60, w60, a1, a5, pt2, rt2, wt2, pt3, rt3, wt3, pt4, rt4, wt4, pt5, rt5, wt5, pm2, rm2, wm2, pm3, rm3, wm3, pm4, rm4, wm4, pm5, rm5, wm5, l1, l2, l3, l5, l6, l7, l8, l10, l11, l12, l31, l36, l63, l100, l1000, l1440, l1000000, l16777216, o1, first7]
                  · rw [if_pos (show nI r ≤ nI (rr m 0) by rw [n_le (by omega) (by omega)]; omega)]
                · by_cases z2 : rr m (ns m - 1) < r
                  · refine ⟨-1, ?_, ?_⟩
                    · simp (disch := first | assumption | omega) only [obs, qle, ↓lm1, l0, qn_add, pk_mul, n_le, n_lt, n_eq, n_sM, n_Ms, n_Mlt, n_Mle, n_ltM, n_leM, ↓reduceIte, eq_self, if_pos, if_neg, qx, p0_0, p0_1, p0_2, p0_3, p2_0, p4_0, p4_1, p4_2, p4_3, p4_4, p4_5, p8_1, p8_5, p8_6, p8_7, p14_0, p14_4, p14_5, p18_1, p18_2, p51_4, p51_5, p51_8, p51_9, p51_10, p51_11, p51_12, p51_14, r3, w3, r6, w6, r7, w7, r9, w9, r10, w10, r11, w11, r12, w12, r15, w15, r16, w16, r17, w17, r19, w19, r20, w20, r53, w53, r54, w54, r55, w55, r56, w56, r57, w57, r58, w58, r59, w59, r60, w60, a1, a5, pt2, rt2, wt2, pt3, rt3, wt3, pt4, rt4, wt4, pt5, rt5, wt5, pm2, rm2, wm2, pm3, rm3, wm3, pm4, rm4, wm4, pm5, rm5, wm5, l1, l2, l3, l5, l6, l7, l8, l10, l11, l12, l31, l36, l63, l100, l1000, l1440, l1000000, l16777216, o1, first7, last7]
                    · rw [if_neg (show ¬ nI r ≤ nI (rr m 0) by rw [n_le (by omega) (by omega)]; omega), if_pos (show nI (rr m (ns m - 1)) ≤ nI r by rw [n_le (by omega) (by omega)]; omega)]
                  · refine ⟨-2, ?_, ?_⟩
                    · simp (disch := first | assumption | omega) only [obs, qle, ↓lm1, l0, qn_add, pk_mul, n_le, n_lt, n_eq, n_sM, n_Ms, n_Mlt, n_Mle, n_ltM, n_leM, ↓reduceIte, eq_self, if_pos, if_neg, qx, p0_0, p0_1, p0_2, p0_3, p2_0, p4_0, p4_1, p4_2, p4_3, p4_4, p4_5, p8_1, p8_5, p8_6, p8_7, p14_0, p14_4, p14_5, p18_1, p18_2, p51_4, p51_5, p51_8, p51_9, p51_10, p51_11, p51_12, p51_14, r3, w3, r6, w6, r7, w7, r9, w9, r10, w10, r11, w11, r12, w12, r15, w15, r16, w16, r17, w17, r19, w19, r20, w20, r53, w53, r54, w54, r55, w55, r56, w56, r57, w57, r58, w58, r59, w59, r60, w60, a1, a5, pt2, rt2, wt2, pt3, rt3, wt3, pt4, rt4, wt4, pt5, rt5, wt5, pm2, rm2, wm2, pm3, rm3, wm3, pm4, rm4, wm4, pm5, rm5, wm5, l1, l2, l3, l5, l6, l7, l8, l10, l11, l12, l31, l36, l63, l100, l1000, l1440, l1000000, l16777216, o1, first7, last7, t7]
                    · rw [if_neg (show ¬ nI r ≤ nI (rr m 0) by rw [n_le (by omega) (by omega)]; omega), if_neg (show ¬ nI (rr m (ns m - 1)) ≤ nI r by rw [n_le (by omega) (by omega)]; omega)]
            by_cases q5 : z = nI 0
            · obtain ⟨v, v1, v2⟩ := key (nI 1) cm (Or.inl ⟨rfl, q5, rfl⟩)
              rw [if_pos q5, l1, v1]
              exact ⟨v, rfl, v2⟩
            · obtain ⟨v, v1, v2⟩ := key (nI 0) gs (Or.inr ⟨rfl, q5, rfl⟩)
              rw [if_neg q5, v1]
              exact ⟨v, rfl, v2⟩
          · rw [if_neg q4, if_neg q4]
            exact ⟨_, rfl, rfl⟩
      · rw [if_neg q2, if_pos (show (0 : Int32) = nI 0 by decide), if_pos (show (0 : Int32) = nI 0 by decide)]
        exact ⟨_, rfl, rfl⟩
