/-! THE CLASS'S SEARCH FOR ROWS: what it reads -/
theorem qfor2 {S O : Type} {body : S → Option (S ⊕ O)} (f : Nat → S) {s0 : S} (h0 : s0 = f 0) (o : O) (n : Nat) {N : Nat} (hN : n < N) (h : ∀ k, k < n → body (f k) = some (.inl (f (k + 1)))) (he : body (f n) = some (.inr o)) : qloop body N s0 = some o := by
  rw [h0]
  exact qfor f o n hN h he
def tri : Nat → Nat
  | 0 => 0
  | a + 1 => tri a + a
theorem tri_15 : ∀ a, a < 6 → ∀ b, b < a → tri a + b < 15 := by decide
/-- what the search holds of the trains -/
def PT (c : Nat) (ns : Nat → Nat) (st : Nat → Nat → Nat) (I : qI) : Prop := I 8 2 = nI c ∧ I 8 3 = nI (enc ns c) ∧ (∀ m, m < c → (∀ i, i < ns m → I 10 (m * 8 + i) = nI (st m i)) ∧ I 10 (m * 8 + ns m) = nM ∧ ∀ i, i ≤ ns m → I 11 (m * 8 + i) = nI (ah ns st m i)) ∧ (∀ a b i j, a < c → b < a → i ≤ ns a → j ≤ ns b → I 12 ((tri a + b) * 8 * 8 + i * 8 + j) = nI (sS ns st a b i j))
theorem PT.congr {c : Nat} {ns : Nat → Nat} {st : Nat → Nat → Nat} {I J : qI} (h : PT c ns st I) (e1 : J 8 2 = I 8 2) (e2 : J 8 3 = I 8 3) (e3 : J 10 = I 10) (e4 : J 11 = I 11) (e5 : J 12 = I 12) : PT c ns st J := by
  unfold PT
  rw [e1, e2, e3, e4, e5]
  exact h
theorem leastNeed_al {N c code : Nat} {ns : Nat → Nat} {st : Nat → Nat → Nat} {R : qR} {I : qI} (hN : 300000 ≤ N) (hL : LR R) (hT : PT c ns st I) (w : wf c ns st) (hp : pl c ns code) : qloop (fun s => cX2_leastNeed_4 N R I 8 (nI code) s.1 s.2) N (nI 0, nI 0) = some (nI (al ns st code c)) := by
  obtain ⟨hc2, hc3, hn, hpr⟩ := hT
  have b8 := p8c w.1
  have hc6 := w.1
  have hc : code < 262144 := by have := hp.1; omega
  refine qfor (fun k => (nI (al ns st code k), nI k)) (nI (al ns st code c)) c (by omega) (fun k hk => ?_) ?_
  · have a1 := (hn k hk).2.2 _ (hp.2 k hk)
    have d8 := dg_lt code k
    simp (disch := first | assumption | omega) only [obs, qle, ↓lm1, l0, qn_add, pk_mul, n_le, n_lt, n_eq, n_sM, n_Ms, n_Mlt, n_Mle, n_ltM, n_leM, ↓reduceIte, eq_self, if_pos, if_neg, qx, p0_0, p0_1, p0_2, p0_3, p2_0, p4_0, p4_1, p4_2, p4_3, p4_4, p4_5, p8_1, p8_5, p8_6, p8_7, p14_0, p14_4, p14_5, p18_1, p18_2, p51_4, p51_5, p51_8, p51_9, p51_10, p51_11, p51_12, p51_14, r3, w3, r6, w6, r7, w7, r9, w9, r10, w10, r11, w11, r12, w12, r15, w15, r16, w16, r17, w17, r19, w19, r20, w20, r53, w53, r54, w54, r55, w55, r56, w56, r57, w57, r58, w58, r59, w59, r60, w60, a1, a5, pt2, rt2, wt2, pt3, rt3, wt3, pt4, rt4, wt4, pt5, rt5, wt5, pm2, rm2, wm2, pm3, rm3, wm3, pm4, rm4, wm4, pm5, rm5, wm5, l1, l2, l3, l5, l6, l7, l8, l10, l11, l12, l31, l36, l63, l100, l1000, l1440, l1000000, l16777216, cX2_leastNeed_4, fX2_placeOf, hc2, n_dig, a1, fa_or, al]
  · simp (disch := first | assumption | omega) only [obs, qle, ↓lm1, l0, qn_add, pk_mul, n_le, n_lt, n_eq, n_sM, n_Ms, n_Mlt, n_Mle, n_ltM, n_leM, ↓reduceIte, eq_self, if_pos, if_neg, qx, p0_0, p0_1, p0_2, p0_3, p2_0, p4_0, p4_1, p4_2, p4_3, p4_4, p4_5, p8_1, p8_5, p8_6, p8_7, p14_0, p14_4, p14_5, p18_1, p18_2, p51_4, p51_5, p51_8, p51_9, p51_10, p51_11, p51_12, p51_14, r3, w3, r6, w6, r7, w7, r9, w9, r10, w10, r11, w11, r12, w12, r15, w15, r16, w16, r17, w17, r19, w19, r20, w20, r53, w53, r54, w54, r55, w55, r56, w56, r57, w57, r58, w58, r59, w59, r60, w60, a1, a5, pt2, rt2, wt2, pt3, rt3, wt3, pt4, rt4, wt4, pt5, rt5, wt5, pm2, rm2, wm2, pm3, rm3, wm3, pm4, rm4, wm4, pm5, rm5, wm5, l1, l2, l3, l5, l6, l7, l8, l10, l11, l12, l31, l36, l63, l100, l1000, l1440, l1000000, l16777216, cX2_leastNeed_4, hc2]
theorem leastNeed_in {N c code k : Nat} {ns : Nat → Nat} {st : Nat → Nat → Nat} {R : qR} {I : qI} (hN : 300000 ≤ N) (hL : LR R) (hT : PT c ns st I) (w : wf c ns st) (hp : pl c ns code) (hk : k < c - 1) : qloop (fun s => cX2_leastNeed_64 N R I 8 (nI code) (nI (al ns st code c)) (nI (k + 1)) (nI ((k + 1) * 8 + dg code (k + 1))) s.1 s.2.1 s.2.2) N (nI (nou c ns st code k), nI (tri (k + 1)), nI 0) = some (nI (nou c ns st code (k + 1)), nI (tri (k + 1 + 1))) := by
  obtain ⟨hc2, hc3, hn, hpr⟩ := hT
  have b8 := p8c w.1
  have hc6 := w.1
  have hc : code < 262144 := by have := hp.1; omega
  have hal := al_lt c ns st w code c (Nat.le_refl _)
  have d8 := dg_lt code (k + 1)
  refine qfor (fun b => (nI (nin c ns st code (k + 1) (nou c ns st code k) b), nI (tri (k + 1) + b), nI b)) (nI (nou c ns st code (k + 1)), nI (tri (k + 1 + 1))) (k + 1) (by omega) (fun b hb => ?_) ?_
  · have e8 := dg_lt code b
    have a1 := (hn (k + 1) (by omega)).2.2 _ (hp.2 (k + 1) (by omega))
    have a2 := (hn b (by omega)).2.2 _ (hp.2 b (by omega))
    have a3 := hpr (k + 1) b _ _ (by omega) hb (hp.2 (k + 1) (by omega)) (hp.2 b (by omega))
    have t15 := tri_15 (k + 1) (by omega) b hb
    have e : ((tri (k + 1) + b) * 8 + ((k + 1) * 8 + dg code (k + 1)) % 8) * 8 + (b * 8 + dg code b) % 8 = (tri (k + 1) + b) * 8 * 8 + dg code (k + 1) * 8 + dg code b := by omega
    have bt2 : ∀ x, an (al ns st code c) x < 8192 := fun x => by have := an_le (al ns st code c) x; omega
    have eE : bc 13 (an (al ns st code c) (ah ns st (k + 1) (dg code (k + 1)) ||| ah ns st b (dg code b))) + sS ns st (k + 1) b (dg code (k + 1)) (dg code b) = eP c ns st code (k + 1) b := by rw [eP]
    have p27 := eP_26 c ns st (code := code) (a := k + 1) (b := b) w (by omega) (by omega)
    have n27 : nin c ns st code (k + 1) (nou c ns st code k) b ≤ 27 := nin_up c ns st b (nou_up c ns st k (by have := bc_le 13 (al ns st code c); omega) (fun a b ha hb => eP_26 c ns st w (by omega) (by omega))) (fun b2 hb2 => eP_26 c ns st w (by omega) (by omega))
    have hbit := bitc (R := R) (I := I) (bt2 (ah ns st (k + 1) (dg code (k + 1)) ||| ah ns st b (dg code b)))
    by_cases hlt : nin c ns st code (k + 1) (nou c ns st code k) b < eP c ns st code (k + 1) b
    · simp (disch := first | assumption | omega) only [obs, qle, ↓lm1, l0, qn_add, pk_mul, n_le, n_lt, n_eq, n_sM, n_Ms, n_Mlt, n_Mle, n_ltM, n_leM, ↓reduceIte, eq_self, if_pos, if_neg, qx, p0_0, p0_1, p0_2, p0_3, p2_0, p4_0, p4_1, p4_2, p4_3, p4_4, p4_5, p8_1, p8_5, p8_6, p8_7, p14_0, p14_4, p14_5, p18_1, p18_2, p51_4, p51_5, p51_8, p51_9, p51_10, p51_11, p51_12, p51_14, r3, w3, r6, w6, r7, w7, r9, w9, r10, w10, r11, w11, r12, w12, r15, w15, r16, w16, r17, w17, r19, w19, r20, w20, r53, w53, r54, w54, r55, w55, r56, w56, r57, w57, r58, w58, r59, w59, r60, w60, a1, a5, pt2, rt2, wt2, pt3, rt3, wt3, pt4, rt4, wt4, pt5, rt5, wt5, pm2, rm2, wm2, pm3, rm3, wm3, pm4, rm4, wm4, pm5, rm5, wm5, l1, l2, l3, l5, l6, l7, l8, l10, l11, l12, l31, l36, l63, l100, l1000, l1440, l1000000, l16777216, cX2_leastNeed_64, fX2_placeOf, fX2_pairNeedAt, n_dig, a1, a2, a3, fa_or, n_an, hbit, pk_rem, e, eE, nin]
      rw [Nat.add_assoc]
    · simp (disch := first | assumption | omega) only [obs, qle, ↓lm1, l0, qn_add, pk_mul, n_le, n_lt, n_eq, n_sM, n_Ms, n_Mlt, n_Mle, n_ltM, n_leM, ↓reduceIte, eq_self, if_pos, if_neg, qx, p0_0, p0_1, p0_2, p0_3, p2_0, p4_0, p4_1, p4_2, p4_3, p4_4, p4_5, p8_1, p8_5, p8_6, p8_7, p14_0, p14_4, p14_5, p18_1, p18_2, p51_4, p51_5, p51_8, p51_9, p51_10, p51_11, p51_12, p51_14, r3, w3, r6, w6, r7, w7, r9, w9, r10, w10, r11, w11, r12, w12, r15, w15, r16, w16, r17, w17, r19, w19, r20, w20, r53, w53, r54, w54, r55, w55, r56, w56, r57, w57, r58, w58, r59, w59, r60, w60, a1, a5, pt2, rt2, wt2, pt3, rt3, wt3, pt4, rt4, wt4, pt5, rt5, wt5, pm2, rm2, wm2, pm3, rm3, wm3, pm4, rm4, wm4, pm5, rm5, wm5, l1, l2, l3, l5, l6, l7, l8, l10, l11, l12, l31, l36, l63, l100, l1000, l1440, l1000000, l16777216, cX2_leastNeed_64, fX2_placeOf, fX2_pairNeedAt, n_dig, a1, a2, a3, fa_or, n_an, hbit, pk_rem, e, eE, nin]
      rw [Nat.add_assoc]
  · simp (disch := first | assumption | omega) only [obs, qle, ↓lm1, l0, qn_add, pk_mul, n_le, n_lt, n_eq, n_sM, n_Ms, n_Mlt, n_Mle, n_ltM, n_leM, ↓reduceIte, eq_self, if_pos, if_neg, qx, p0_0, p0_1, p0_2, p0_3, p2_0, p4_0, p4_1, p4_2, p4_3, p4_4, p4_5, p8_1, p8_5, p8_6, p8_7, p14_0, p14_4, p14_5, p18_1, p18_2, p51_4, p51_5, p51_8, p51_9, p51_10, p51_11, p51_12, p51_14, r3, w3, r6, w6, r7, w7, r9, w9, r10, w10, r11, w11, r12, w12, r15, w15, r16, w16, r17, w17, r19, w19, r20, w20, r53, w53, r54, w54, r55, w55, r56, w56, r57, w57, r58, w58, r59, w59, r60, w60, a1, a5, pt2, rt2, wt2, pt3, rt3, wt3, pt4, rt4, wt4, pt5, rt5, wt5, pm2, rm2, wm2, pm3, rm3, wm3, pm4, rm4, wm4, pm5, rm5, wm5, l1, l2, l3, l5, l6, l7, l8, l10, l11, l12, l31, l36, l63, l100, l1000, l1440, l1000000, l16777216, cX2_leastNeed_64, nou, tri]
theorem leastNeed_o1 {N c code : Nat} {ns : Nat → Nat} {st : Nat → Nat → Nat} {R : qR} {I : qI} (hN : 300000 ≤ N) (hL : LR R) (hT : PT c ns st I) (w : wf c ns st) (h0 : 0 < c) (hp : pl c ns code) : ∀ k, k < c - 1 → cX2_leastNeed_43 N R I 8 (nI code) (nI (al ns st code c)) (nI (nou c ns st code k)) (nI (tri (k + 1))) (nI (k + 1)) = some (.inl (nI (nou c ns st code (k + 1)), nI (tri (k + 1 + 1)), nI (k + 1 + 1))) := by
  have b8 := p8c w.1
  have hc6 := w.1
  have hc2 := hT.1
  have hc : code < 262144 := by have := hp.1; omega
  intro k hk
  have d8 := dg_lt code (k + 1)
  have inner := leastNeed_in (N := N) hN hL hT w hp hk
  simp (disch := first | assumption | omega) only [obs, qle, ↓lm1, l0, qn_add, pk_mul, n_le, n_lt, n_eq, n_sM, n_Ms, n_Mlt, n_Mle, n_ltM, n_leM, ↓reduceIte, eq_self, if_pos, if_neg, qx, p0_0, p0_1, p0_2, p0_3, p2_0, p4_0, p4_1, p4_2, p4_3, p4_4, p4_5, p8_1, p8_5, p8_6, p8_7, p14_0, p14_4, p14_5, p18_1, p18_2, p51_4, p51_5, p51_8, p51_9, p51_10, p51_11, p51_12, p51_14, r3, w3, r6, w6, r7, w7, r9, w9, r10, w10, r11, w11, r12, w12, r15, w15, r16, w16, r17, w17, r19, w19, r20, w20, r53, w53, r54, w54, r55, w55, r56, w56, r57, w57, r58, w58, r59, w59, r60, w60, a1, a5, pt2, rt2, wt2, pt3, rt3, wt3, pt4, rt4, wt4, pt5, rt5, wt5, pm2, rm2, wm2, pm3, rm3, wm3, pm4, rm4, wm4, pm5, rm5, wm5, l1, l2, l3, l5, l6, l7, l8, l10, l11, l12, l31, l36, l63, l100, l1000, l1440, l1000000, l16777216, cX2_leastNeed_43, fX2_placeOf, hc2, n_dig, inner]
theorem leastNeed_o2 {N c code : Nat} {ns : Nat → Nat} {st : Nat → Nat → Nat} {R : qR} {I : qI} (hN : 300000 ≤ N) (hL : LR R) (hT : PT c ns st I) (w : wf c ns st) (h0 : 0 < c) (hp : pl c ns code) : qloop (fun s => cX2_leastNeed_43 N R I 8 (nI code) (nI (al ns st code c)) s.1 s.2.1 s.2.2) N (nI (bc 13 (al ns st code c)), nI 0, nI 1) = some (nI (lN0 c ns st code)) := by
  have hc6 := w.1
  have hc2 := hT.1
  refine qfor2 (fun k => (nI (nou c ns st code k), nI (tri (k + 1)), nI (k + 1))) (by rw [nou, tri, tri]) (nI (lN0 c ns st code)) (c - 1) (by omega) (fun k hk => leastNeed_o1 hN hL hT w h0 hp k hk) ?_
  have e : c - 1 + 1 = c := by omega
  simp (disch := first | assumption | omega) only [obs, qle, ↓lm1, l0, qn_add, pk_mul, n_le, n_lt, n_eq, n_sM, n_Ms, n_Mlt, n_Mle, n_ltM, n_leM, ↓reduceIte, eq_self, if_pos, if_neg, qx, p0_0, p0_1, p0_2, p0_3, p2_0, p4_0, p4_1, p4_2, p4_3, p4_4, p4_5, p8_1, p8_5, p8_6, p8_7, p14_0, p14_4, p14_5, p18_1, p18_2, p51_4, p51_5, p51_8, p51_9, p51_10, p51_11, p51_12, p51_14, r3, w3, r6, w6, r7, w7, r9, w9, r10, w10, r11, w11, r12, w12, r15, w15, r16, w16, r17, w17, r19, w19, r20, w20, r53, w53, r54, w54, r55, w55, r56, w56, r57, w57, r58, w58, r59, w59, r60, w60, a1, a5, pt2, rt2, wt2, pt3, rt3, wt3, pt4, rt4, wt4, pt5, rt5, wt5, pm2, rm2, wm2, pm3, rm3, wm3, pm4, rm4, wm4, pm5, rm5, wm5, l1, l2, l3, l5, l6, l7, l8, l10, l11, l12, l31, l36, l63, l100, l1000, l1440, l1000000, l16777216, cX2_leastNeed_43, hc2, e, lN0]
theorem leastNeed_eq {N c code : Nat} {ns : Nat → Nat} {st : Nat → Nat → Nat} {R : qR} {I : qI} (hN : 300000 ≤ N) (hL : LR R) (hT : PT c ns st I) (w : wf c ns st) (h0 : 0 < c) (hp : pl c ns code) : fX2_leastNeed N R I 8 (nI code) = some (nI (lN0 c ns st code)) := by
  have hal := al_lt c ns st w code c (Nat.le_refl _)
  unfold fX2_leastNeed
  have o2 := leastNeed_al (N := N) hN hL hT w hp
  have o3 := bitc (R := R) (I := I) (show al ns st code c < 8192 by omega)
  have o1 := leastNeed_o2 (N := N) hN hL hT w h0 hp
  exact bind_of o2 (bind_of o3 (bind_of o1 rfl))
