/-! THE CLASS'S SEARCH: how it is made ready -/
def CM (c : Nat) (ns : Nat → Nat) (st : Nat → Nat → Nat) (I : qI) : Prop := ∀ m, m < c → I (21 + 5 * m) 1 = nI (ns m) ∧ ∀ i, i < ns m → I (21 + 5 * m + 1) i = nI (st m i)
theorem CM.congr {c : Nat} {ns : Nat → Nat} {st : Nat → Nat → Nat} {I J : qI} (h : CM c ns st I) (hc : c ≤ 6) (e : ∀ a, 21 ≤ a → a < 51 → J a = I a) : CM c ns st J := by
  intro m hm
  rw [e _ (by omega) (by omega), e _ (by omega) (by omega)]
  exact h m hm
/-- of one train: next and ahead -/
def PT1 (ns : Nat → Nat) (st : Nat → Nat → Nat) (m : Nat) (I : qI) : Prop := (∀ i, i < ns m → I 10 (m * 8 + i) = nI (st m i)) ∧ I 10 (m * 8 + ns m) = nM ∧ ∀ i, i ≤ ns m → I 11 (m * 8 + i) = nI (ah ns st m i)
theorem readStops_ok {N c m : Nat} {ns : Nat → Nat} {st : Nat → Nat → Nat} {R : qR} {I : qI} (hN : 300000 ≤ N) (hL : LR R) (w : wf c ns st) (hC : CM c ns st I) (hm : m < c) : ok (fX2_readStops N R I 8 (21 + 5 * m) (nI m)) (fun J => PT1 ns st m J ∧ (∀ a, a ≠ 10 → a ≠ 11 → J a = I a) ∧ ∀ x, ¬ (m * 8 ≤ x ∧ x < m * 8 + 8) → J 10 x = I 10 x ∧ J 11 x = I 11 x) := by
  have hc6 := w.1
  have h7 := w.2.1 m hm
  obtain ⟨e1, e2⟩ := hC m hm
  have hL2 := hL
  unfold fX2_readStops
  rw [lm1, l8, l0, l1, e1]
  refine ok_bindv (p8_5 hL) (ok_bindv (by rw [pk_mul, qn_add]; exact w10 hL (by omega)) (ok_bindv (p8_6 hL) ?_))
  rw [qup_off (by omega), e1]
  refine ok_bindv (by rw [pk_mul, qn_add]; exact w11 hL (by omega)) ?_
  rw [qup_off (by omega), qup_off (by omega), e1, nP_sub]
  refine ok_bind (ok_mono (P := fun J => PT1 ns st m J ∧ (∀ a, a ≠ 10 → a ≠ 11 → J a = I a) ∧ ∀ x, ¬ (m * 8 ≤ x ∧ x < m * 8 + 8) → J 10 x = I 10 x ∧ J 11 x = I 11 x) ?_ (fun J hJ => ok_some hJ))
  refine ok_for (fun k q => ∃ n J, n + k = ns m ∧ q = (nP n, J) ∧ (∀ i, n ≤ i → i < ns m → J 10 (m * 8 + i) = nI (st m i)) ∧ J 10 (m * 8 + ns m) = nM ∧ (∀ i, n ≤ i → i ≤ ns m → J 11 (m * 8 + i) = nI (ah ns st m i)) ∧ (∀ a, a ≠ 10 → a ≠ 11 → J a = I a) ∧ ∀ x, ¬ (m * 8 ≤ x ∧ x < m * 8 + 8) → J 10 x = I 10 x ∧ J 11 x = I 11 x) (ns m) (by omega) ⟨ns m, _, by omega, rfl, fun i h1 h2 => by omega, ?_, fun i h1 h2 => ?_, fun a h1 h2 => ?_, fun x hx => ?_⟩ (fun k q hk hq => ?_) (fun q hq => ?_)
  · rw [qup_off (by omega)]; exact qup_on
  · obtain rfl : i = ns m := by omega
    rw [ah_end]; exact qup_on
  · rw [qup_ne _ _ _ h2, qup_ne _ _ _ h1]
  · exact ⟨by rw [qup_off (by omega), qup_off (by omega)], by rw [qup_off (by omega), qup_off (by omega)]⟩
  · obtain ⟨n, J, hn, rfl, g1, g2, g3, g4, g5⟩ := hq
    obtain ⟨j, rfl⟩ : ∃ j, n = j + 1 := ⟨n - 1, by omega⟩
    have hs := e2 j (by omega)
    have hs12 := w.2.2 m j hm (by omega)
    have f1 : J (21 + 5 * m + 1) j = nI (st m j) := by rw [g4 _ (by omega) (by omega)]; exact hs
    have f2 : qup J 10 (m * 8 + j) (nI (st m j)) 11 (m * 8 + j + 1) = nI (ah ns st m (j + 1)) := by rw [qup_off (by omega)]; exact g3 (j + 1) (by omega) (by omega)
    have f3 : qup J 10 (m * 8 + j) (nI (st m j)) (21 + 5 * m + 1) j = nI (st m j) := by rw [qup_off (by omega)]; exact f1
    have hr : ah ns st m (j + 1) ||| 2 ^ (st m j) = ah ns st m j := (ah_rec ns st (by omega)).symm
    have hm6 : m < 6 := by omega
    refine ⟨.inl (nP j, qup (qup J 10 (m * 8 + j) (nI (st m j))) 11 (m * 8 + j) (nI (ah ns st m j))), ?_, j, _, by omega, rfl, fun i h1 h2 => ?_, ?_, fun i h1 h2 => ?_, fun a h1 h2 => ?_, fun x hx => ?_⟩
    · show cX2_readStops_37 N R 8 (21 + 5 * m) (nI m * nI 8) (nI j) J = _
      unfold cX2_readStops_37
      simp (disch := first | assumption | omega) only [obs, qle, ↓lm1, l0, qn_add, pk_mul, n_le, n_lt, n_eq, n_sM, n_Ms, n_Mlt, n_Mle, n_ltM, n_leM, ↓reduceIte, eq_self, if_pos, if_neg, qx, p0_0, p0_1, p0_2, p0_3, p2_0, p4_0, p4_1, p4_2, p4_3, p4_4, p4_5, p8_1, p8_5, p8_6, p8_7, p14_0, p14_4, p14_5, p18_1, p18_2, p51_4, p51_5, p51_8, p51_9, p51_10, p51_11, p51_12, p51_14, r3, w3, r6, w6, r7, w7, r9, w9, r10, w10, r11, w11, r12, w12, r15, w15, r16, w16, r17, w17, r19, w19, r20, w20, r53, w53, r54, w54, r55, w55, r56, w56, r57, w57, r58, w58, r59, w59, r60, w60, a1, a5, pt2, rt2, wt2, pt3, rt3, wt3, pt4, rt4, wt4, pt5, rt5, wt5, pm2, rm2, wm2, pm3, rm3, wm3, pm4, rm4, wm4, pm5, rm5, wm5, l1, l2, l3, l5, l6, l7, l8, l10, l11, l12, l31, l36, l63, l100, l1000, l1440, l1000000, l16777216, f1, f2, f3, n_1s, fa_or, hr, nP_dec]
    · rw [qup_off (by omega)]
      by_cases e : i = j
      · subst e; exact qup_on
      · rw [qup_off (by omega)]; exact g1 i (by omega) h2
    · rw [qup_off (by omega), qup_off (by omega)]; exact g2
    · by_cases e : i = j
      · subst e; exact qup_on
      · rw [qup_off (by omega), qup_off (by omega)]; exact g3 i (by omega) h2
    · rw [qup_ne _ _ _ h2, qup_ne _ _ _ h1]; exact g4 a h1 h2
    · have := g5 x hx
      exact ⟨by rw [qup_off (by omega), qup_off (by omega)]; exact this.1, by rw [qup_off (by omega), qup_off (by omega)]; exact this.2⟩
  · obtain ⟨n, J, hn, rfl, g1, g2, g3, g4, g5⟩ := hq
    obtain rfl : n = 0 := by omega
    refine ⟨.inr J, ?_, ⟨fun i hi => g1 i (by omega) hi, g2, fun i hi => g3 i (by omega) hi⟩, g4, g5⟩
    show cX2_readStops_37 N R 8 (21 + 5 * m) (nI m * nI 8) nM J = _
    unfold cX2_readStops_37
    simp (disch := first | assumption | omega) only [obs, qle, ↓lm1, l0, qn_add, pk_mul, n_le, n_lt, n_eq, n_sM, n_Ms, n_Mlt, n_Mle, n_ltM, n_leM, ↓reduceIte, eq_self, if_pos, if_neg, qx, p0_0, p0_1, p0_2, p0_3, p2_0, p4_0, p4_1, p4_2, p4_3, p4_4, p4_5, p8_1, p8_5, p8_6, p8_7, p14_0, p14_4, p14_5, p18_1, p18_2, p51_4, p51_5, p51_8, p51_9, p51_10, p51_11, p51_12, p51_14, r3, w3, r6, w6, r7, w7, r9, w9, r10, w10, r11, w11, r12, w12, r15, w15, r16, w16, r17, w17, r19, w19, r20, w20, r53, w53, r54, w54, r55, w55, r56, w56, r57, w57, r58, w58, r59, w59, r60, w60, a1, a5, pt2, rt2, wt2, pt3, rt3, wt3, pt4, rt4, wt4, pt5, rt5, wt5, pm2, rm2, wm2, pm3, rm3, wm3, pm4, rm4, wm4, pm5, rm5, wm5, l1, l2, l3, l5, l6, l7, l8, l10, l11, l12, l31, l36, l63, l100, l1000, l1440, l1000000, l16777216]
theorem sS_ea {ns : Nat → Nat} {st : Nat → Nat → Nat} {a b j : Nat} : sS ns st a b (ns a) j = ns b - j := by unfold sS; rw [Nat.sub_self, sc_0m]
theorem sS_eb {ns : Nat → Nat} {st : Nat → Nat → Nat} {a b i : Nat} : sS ns st a b i (ns b) = ns a - i := by unfold sS; rw [Nat.sub_self, sc_n0]
theorem sS_eq {ns : Nat → Nat} {st : Nat → Nat → Nat} {a b i j : Nat} (hi : i < ns a) (hj : j < ns b) (h : st a i = st b j) : sS ns st a b i j = 1 + sS ns st a b (i + 1) (j + 1) := by
  unfold sS
  obtain ⟨n, hn⟩ : ∃ n, ns a - i = n + 1 := ⟨ns a - i - 1, by omega⟩
  obtain ⟨m, hm⟩ : ∃ m, ns b - j = m + 1 := ⟨ns b - j - 1, by omega⟩
  rw [hn, hm, sc, show ns a - (n + 1) = i by omega, show ns b - (m + 1) = j by omega, if_pos h, show ns a - (i + 1) = n by omega, show ns b - (j + 1) = m by omega]
theorem sS_ne {ns : Nat → Nat} {st : Nat → Nat → Nat} {a b i j : Nat} (hi : i < ns a) (hj : j < ns b) (h : ¬ st a i = st b j) : sS ns st a b i j = 1 + (if sS ns st a b i (j + 1) < sS ns st a b (i + 1) j then sS ns st a b i (j + 1) else sS ns st a b (i + 1) j) := by
  unfold sS
  obtain ⟨n, hn⟩ : ∃ n, ns a - i = n + 1 := ⟨ns a - i - 1, by omega⟩
  obtain ⟨m, hm⟩ : ∃ m, ns b - j = m + 1 := ⟨ns b - j - 1, by omega⟩
  rw [hn, hm, sc, show ns a - (n + 1) = i by omega, show ns b - (m + 1) = j by omega, if_neg h, show ns a - (i + 1) = n by omega, show ns b - (j + 1) = m by omega]
theorem sS_14 {c : Nat} {ns : Nat → Nat} {st : Nat → Nat → Nat} {a b i j : Nat} (w : wf c ns st) (ha : a < c) (hb : b < c) : sS ns st a b i j ≤ 14 := by
  have h2 := sc_le (st a) (st b) (ns a) (ns b) (ns a - i) (ns b - j)
  have h3 := w.2.1 a ha
  have h4 := w.2.1 b hb
  unfold sS
  omega
/-- of two trains: what they need from these places on -/
def PT2 (ns : Nat → Nat) (st : Nat → Nat → Nat) (pr a b i0 j0 : Nat) (I : qI) : Prop := (∀ i j, i0 < i → i ≤ ns a → j ≤ ns b → I 12 (pr * 8 * 8 + i * 8 + j) = nI (sS ns st a b i j)) ∧ ∀ j, i0 ≤ ns a → j0 ≤ j → j ≤ ns b → I 12 (pr * 8 * 8 + i0 * 8 + j) = nI (sS ns st a b i0 j)
theorem fillPair_in {N c a b pr i : Nat} {ns : Nat → Nat} {st : Nat → Nat → Nat} {R : qR} {I : qI} (hN : 300000 ≤ N) (hL : LR R) (w : wf c ns st) (hC : CM c ns st I) (ha : a < c) (hb : b < c) (hpr : pr < 15) (hi : i ≤ ns a) (h0 : PT2 ns st pr a b i (ns b + 1) I) : ok (qloop (fun s => cX2_fillPair_26 N R 8 (21 + 5 * a) (21 + 5 * b) (nI (pr * 8 * 8)) (nI i) s.1 s.2) N (nI (ns b), I)) (fun J => PT2 ns st pr a b i 0 J ∧ (∀ a, a ≠ 12 → J a = I a) ∧ ∀ x, ¬ (pr * 64 ≤ x ∧ x < pr * 64 + 64) → J 12 x = I 12 x) := by
  have hc6 := w.1
  have h7 := w.2.1 a ha
  have h8 := w.2.1 b hb
  obtain ⟨e1, e2⟩ := hC a ha
  obtain ⟨e3, e4⟩ := hC b hb
  have ha6 : a < 6 := by omega
  have hb6 : b < 6 := by omega
  refine ok_for (fun k q => ∃ n J, n + k = ns b + 1 ∧ q = (nP n, J) ∧ PT2 ns st pr a b i n J ∧ (∀ a, a ≠ 12 → J a = I a) ∧ ∀ x, ¬ (pr * 64 ≤ x ∧ x < pr * 64 + 64) → J 12 x = I 12 x) (ns b + 1) (by omega) ⟨ns b + 1, I, by omega, rfl, h0, fun _ _ => rfl, fun _ _ => rfl⟩ (fun k q hk hq => ?_) (fun q hq => ?_)
  · obtain ⟨n, J, hn, rfl, g1, g2, g3⟩ := hq
    obtain ⟨j, rfl⟩ : ∃ j, n = j + 1 := ⟨n - 1, by omega⟩
    have f1 : J (21 + 5 * a) 1 = nI (ns a) := by rw [g2 _ (by omega)]; exact e1
    have f3 : J (21 + 5 * b) 1 = nI (ns b) := by rw [g2 _ (by omega)]; exact e3
    have key : cX2_fillPair_26 N R 8 (21 + 5 * a) (21 + 5 * b) (nI (pr * 8 * 8)) (nI i) (nI j) J = some (.inl (nP j, qup J 12 (pr * 8 * 8 + i * 8 + j) (nI (sS ns st a b i j)))) := by
      unfold cX2_fillPair_26
      by_cases hia : i = ns a
      · have ee : ns a - i + ns b - j = sS ns st a b i j := by rw [hia, sS_ea]; omega
        simp (disch := first | assumption | omega) only [obs, qle, ↓lm1, l0, qn_add, pk_mul, n_le, n_lt, n_eq, n_sM, n_Ms, n_Mlt, n_Mle, n_ltM, n_leM, ↓reduceIte, eq_self, if_pos, if_neg, qx, p0_0, p0_1, p0_2, p0_3, p2_0, p4_0, p4_1, p4_2, p4_3, p4_4, p4_5, p8_1, p8_5, p8_6, p8_7, p14_0, p14_4, p14_5, p18_1, p18_2, p51_4, p51_5, p51_8, p51_9, p51_10, p51_11, p51_12, p51_14, r3, w3, r6, w6, r7, w7, r9, w9, r10, w10, r11, w11, r12, w12, r15, w15, r16, w16, r17, w17, r19, w19, r20, w20, r53, w53, r54, w54, r55, w55, r56, w56, r57, w57, r58, w58, r59, w59, r60, w60, a1, a5, pt2, rt2, wt2, pt3, rt3, wt3, pt4, rt4, wt4, pt5, rt5, wt5, pm2, rm2, wm2, pm3, rm3, wm3, pm4, rm4, wm4, pm5, rm5, wm5, l1, l2, l3, l5, l6, l7, l8, l10, l11, l12, l31, l36, l63, l100, l1000, l1440, l1000000, l16777216, f1, f3, qn_sub, ee, nP_dec]
      · by_cases hjb : j = ns b
        · have ee : ns a - i + ns b - j = sS ns st a b i j := by rw [hjb, sS_eb]; omega
          simp (disch := first | assumption | omega) only [obs, qle, ↓lm1, l0, qn_add, pk_mul, n_le, n_lt, n_eq, n_sM, n_Ms, n_Mlt, n_Mle, n_ltM, n_leM, ↓reduceIte, eq_self, if_pos, if_neg, qx, p0_0, p0_1, p0_2, p0_3, p2_0, p4_0, p4_1, p4_2, p4_3, p4_4, p4_5, p8_1, p8_5, p8_6, p8_7, p14_0, p14_4, p14_5, p18_1, p18_2, p51_4, p51_5, p51_8, p51_9, p51_10, p51_11, p51_12, p51_14, r3, w3, r6, w6, r7, w7, r9, w9, r10, w10, r11, w11, r12, w12, r15, w15, r16, w16, r17, w17, r19, w19, r20, w20, r53, w53, r54, w54, r55, w55, r56, w56, r57, w57, r58, w58, r59, w59, r60, w60, a1, a5, pt2, rt2, wt2, pt3, rt3, wt3, pt4, rt4, wt4, pt5, rt5, wt5, pm2, rm2, wm2, pm3, rm3, wm3, pm4, rm4, wm4, pm5, rm5, wm5, l1, l2, l3, l5, l6, l7, l8, l10, l11, l12, l31, l36, l63, l100, l1000, l1440, l1000000, l16777216, f1, f3, qn_sub, ee, nP_dec]
        · have f2 : J (21 + 5 * a + 1) i = nI (st a i) := by rw [g2 _ (by omega)]; exact e2 i (by omega)
          have f4 : J (21 + 5 * b + 1) j = nI (st b j) := by rw [g2 _ (by omega)]; exact e4 j (by omega)
          have s1 := w.2.2 a i ha (by omega)
          have s2 := w.2.2 b j hb (by omega)
          by_cases hst : st a i = st b j
          · have v1 := g1.1 (i + 1) (j + 1) (by omega) (by omega) (by omega)
            have ex : pr * 8 * 8 + i * 8 + j + 8 + 1 = pr * 8 * 8 + (i + 1) * 8 + (j + 1) := by omega
            have ee : 1 + sS ns st a b (i + 1) (j + 1) = sS ns st a b i j := (sS_eq (by omega) (by omega) hst).symm
            simp (disch := first | assumption | omega) only [obs, qle, ↓lm1, l0, qn_add, pk_mul, n_le, n_lt, n_eq, n_sM, n_Ms, n_Mlt, n_Mle, n_ltM, n_leM, ↓reduceIte, eq_self, if_pos, if_neg, qx, p0_0, p0_1, p0_2, p0_3, p2_0, p4_0, p4_1, p4_2, p4_3, p4_4, p4_5, p8_1, p8_5, p8_6, p8_7, p14_0, p14_4, p14_5, p18_1, p18_2, p51_4, p51_5, p51_8, p51_9, p51_10, p51_11, p51_12, p51_14, r3, w3, r6, w6, r7, w7, r9, w9, r10, w10, r11, w11, r12, w12, r15, w15, r16, w16, r17, w17, r19, w19, r20, w20, r53, w53, r54, w54, r55, w55, r56, w56, r57, w57, r58, w58, r59, w59, r60, w60, a1, a5, pt2, rt2, wt2, pt3, rt3, wt3, pt4, rt4, wt4, pt5, rt5, wt5, pm2, rm2, wm2, pm3, rm3, wm3, pm4, rm4, wm4, pm5, rm5, wm5, l1, l2, l3, l5, l6, l7, l8, l10, l11, l12, l31, l36, l63, l100, l1000, l1440, l1000000, l16777216, f1, f3, f2, f4, ex, v1, ee, nP_dec]
          · have v1 := g1.1 (i + 1) j (by omega) (by omega) (by omega)
            have v2 := g1.2 (j + 1) (by omega) (by omega) (by omega)
            have ex : pr * 8 * 8 + i * 8 + j + 8 = pr * 8 * 8 + (i + 1) * 8 + j := by omega
            have ey : pr * 8 * 8 + i * 8 + j + 1 = pr * 8 * 8 + i * 8 + (j + 1) := by omega
            have ee := sS_ne (ns := ns) (st := st) (a := a) (b := b) (i := i) (j := j) (by omega) (by omega) hst
            have b1 := sS_14 (i := i + 1) (j := j) w ha hb
            have b2 := sS_14 (i := i) (j := j + 1) w ha hb
            by_cases hlt : sS ns st a b i (j + 1) < sS ns st a b (i + 1) j
            · rw [if_pos hlt] at ee
              simp (disch := first | assumption | omega) only [obs, qle, ↓lm1, l0, qn_add, pk_mul, n_le, n_lt, n_eq, n_sM, n_Ms, n_Mlt, n_Mle, n_ltM, n_leM, ↓reduceIte, eq_self, if_pos, if_neg, qx, p0_0, p0_1, p0_2, p0_3, p2_0, p4_0, p4_1, p4_2, p4_3, p4_4, p4_5, p8_1, p8_5, p8_6, p8_7, p14_0, p14_4, p14_5, p18_1, p18_2, p51_4, p51_5, p51_8, p51_9, p51_10, p51_11, p51_12, p51_14, r3, w3, r6, w6, r7, w7, r9, w9, r10, w10, r11, w11, r12, w12, r15, w15, r16, w16, r17, w17, r19, w19, r20, w20, r53, w53, r54, w54, r55, w55, r56, w56, r57, w57, r58, w58, r59, w59, r60, w60, a1, a5, pt2, rt2, wt2, pt3, rt3, wt3, pt4, rt4, wt4, pt5, rt5, wt5, pm2, rm2, wm2, pm3, rm3, wm3, pm4, rm4, wm4, pm5, rm5, wm5, l1, l2, l3, l5, l6, l7, l8, l10, l11, l12, l31, l36, l63, l100, l1000, l1440, l1000000, l16777216, f1, f3, f2, f4, ex, ey, v1, v2, ee, nP_dec]
            · rw [if_neg hlt] at ee
              simp (disch := first | assumption | omega) only [obs, qle, ↓lm1, l0, qn_add, pk_mul, n_le, n_lt, n_eq, n_sM, n_Ms, n_Mlt, n_Mle, n_ltM, n_leM, ↓reduceIte, eq_self, if_pos, if_neg, qx, p0_0, p0_1, p0_2, p0_3, p2_0, p4_0, p4_1, p4_2, p4_3, p4_4, p4_5, p8_1, p8_5, p8_6, p8_7, p14_0, p14_4, p14_5, p18_1, p18_2, p51_4, p51_5, p51_8, p51_9, p51_10, p51_11, p51_12, p51_14, r3, w3, r6, w6, r7, w7, r9, w9, r10, w10, r11, w11, r12, w12, r15, w15, r16, w16, r17, w17, r19, w19, r20, w20, r53, w53, r54, w54, r55, w55, r56, w56, r57, w57, r58, w58, r59, w59, r60, w60, a1, a5, pt2, rt2, wt2, pt3, rt3, wt3, pt4, rt4, wt4, pt5, rt5, wt5, pm2, rm2, wm2, pm3, rm3, wm3, pm4, rm4, wm4, pm5, rm5, wm5, l1, l2, l3, l5, l6, l7, l8, l10, l11, l12, l31, l36, l63, l100, l1000, l1440, l1000000, l16777216, f1, f3, f2, f4, ex, ey, v1, v2, ee, nP_dec]
    refine ⟨_, key, j, _, by omega, rfl, ⟨fun i2 j2 h1 h2 h3 => ?_, fun j2 h1 h2 h3 => ?_⟩, fun x hx => ?_, fun x hx => ?_⟩
    · rw [qup_off (by omega)]; exact g1.1 i2 j2 h1 h2 h3
    · by_cases e : j2 = j
      · subst e; exact qup_on
      · rw [qup_off (by omega)]; exact g1.2 j2 h1 (by omega) h3
    · rw [qup_ne _ _ _ hx]; exact g2 x hx
    · rw [qup_off (by omega)]; exact g3 x hx
  · obtain ⟨n, J, hn, rfl, g1, g2, g3⟩ := hq
    obtain rfl : n = 0 := by omega
    refine ⟨.inr J, ?_, g1, g2, g3⟩
    show cX2_fillPair_26 N R 8 (21 + 5 * a) (21 + 5 * b) (nI (pr * 8 * 8)) (nI i) nM J = _
    unfold cX2_fillPair_26
    simp (disch := first | assumption | omega) only [obs, qle, ↓lm1, l0, qn_add, pk_mul, n_le, n_lt, n_eq, n_sM, n_Ms, n_Mlt, n_Mle, n_ltM, n_leM, ↓reduceIte, eq_self, if_pos, if_neg, qx, p0_0, p0_1, p0_2, p0_3, p2_0, p4_0, p4_1, p4_2, p4_3, p4_4, p4_5, p8_1, p8_5, p8_6, p8_7, p14_0, p14_4, p14_5, p18_1, p18_2, p51_4, p51_5, p51_8, p51_9, p51_10, p51_11, p51_12, p51_14, r3, w3, r6, w6, r7, w7, r9, w9, r10, w10, r11, w11, r12, w12, r15, w15, r16, w16, r17, w17, r19, w19, r20, w20, r53, w53, r54, w54, r55, w55, r56, w56, r57, w57, r58, w58, r59, w59, r60, w60, a1, a5, pt2, rt2, wt2, pt3, rt3, wt3, pt4, rt4, wt4, pt5, rt5, wt5, pm2, rm2, wm2, pm3, rm3, wm3, pm4, rm4, wm4, pm5, rm5, wm5, l1, l2, l3, l5, l6, l7, l8, l10, l11, l12, l31, l36, l63, l100, l1000, l1440, l1000000, l16777216]
theorem fillPair_ok {N c a b pr : Nat} {ns : Nat → Nat} {st : Nat → Nat → Nat} {R : qR} {I : qI} (hN : 300000 ≤ N) (hL : LR R) (w : wf c ns st) (hC : CM c ns st I) (ha : a < c) (hb : b < c) (hpr : pr < 15) : ok (fX2_fillPair N R I 8 (nI pr) (21 + 5 * a) (21 + 5 * b)) (fun J => (∀ i j, i ≤ ns a → j ≤ ns b → J 12 (pr * 8 * 8 + i * 8 + j) = nI (sS ns st a b i j)) ∧ (∀ a, a ≠ 12 → J a = I a) ∧ ∀ x, ¬ (pr * 64 ≤ x ∧ x < pr * 64 + 64) → J 12 x = I 12 x) := by
  have hc6 := w.1
  have h7 := w.2.1 a ha
  have h8 := w.2.1 b hb
  unfold fX2_fillPair
  rw [(hC a ha).1, l8, pk_mul, pk_mul]
  refine ok_bind (ok_mono (P := fun J => (∀ i j, i ≤ ns a → j ≤ ns b → J 12 (pr * 8 * 8 + i * 8 + j) = nI (sS ns st a b i j)) ∧ (∀ a, a ≠ 12 → J a = I a) ∧ ∀ x, ¬ (pr * 64 ≤ x ∧ x < pr * 64 + 64) → J 12 x = I 12 x) ?_ (fun J hJ => ok_some hJ))
  refine ok_for (fun k q => ∃ n J, n + k = ns a + 1 ∧ q = (nP n, J) ∧ (∀ i j, n ≤ i → i ≤ ns a → j ≤ ns b → J 12 (pr * 8 * 8 + i * 8 + j) = nI (sS ns st a b i j)) ∧ (∀ a, a ≠ 12 → J a = I a) ∧ ∀ x, ¬ (pr * 64 ≤ x ∧ x < pr * 64 + 64) → J 12 x = I 12 x) (ns a + 1) (by omega) ⟨ns a + 1, I, by omega, rfl, fun i j h1 h2 => by omega, fun _ _ => rfl, fun _ _ => rfl⟩ (fun k q hk hq => ?_) (fun q hq => ?_)
  · obtain ⟨n, J, hn, rfl, g1, g2, g3⟩ := hq
    obtain ⟨i, rfl⟩ : ∃ i, n = i + 1 := ⟨n - 1, by omega⟩
    have hCJ : CM c ns st J := hC.congr hc6 (fun a h1 h2 => g2 a (by omega))
    show ok (cX2_fillPair_15 N R 8 (21 + 5 * a) (21 + 5 * b) (nI (pr * 8 * 8)) (nI i) J) _
    unfold cX2_fillPair_15
    rw [if_neg (show ¬ nI i < 0 by rw [l0, n_lt (by omega) (by omega)]; omega), (hCJ b hb).1]
    refine ok_bind (ok_mono (fillPair_in (N := N) (i := i) hN hL w hCJ ha hb hpr (by omega) ⟨fun i2 j2 h1 h2 h3 => g1 i2 j2 (by omega) h2 h3, fun j2 h1 h2 h3 => by omega⟩) (fun K hK => ?_))
    obtain ⟨k1, k2, k3⟩ := hK
    rw [lm1, nP_dec]
    refine ok_some ⟨i, K, by omega, rfl, fun i2 j2 h1 h2 h3 => ?_, fun x hx => (k2 x hx).trans (g2 x hx), fun x hx => (k3 x hx).trans (g3 x hx)⟩
    by_cases e : i2 = i
    · subst e; exact k1.2 j2 h2 (by omega) h3
    · exact k1.1 i2 j2 (by omega) h2 h3
  · obtain ⟨n, J, hn, rfl, g1, g2, g3⟩ := hq
    obtain rfl : n = 0 := by omega
    refine ⟨.inr J, ?_, fun i j h1 h2 => g1 i j (by omega) h1 h2, g2, g3⟩
    show cX2_fillPair_15 N R 8 (21 + 5 * a) (21 + 5 * b) (nI (pr * 8 * 8)) nM J = _
    unfold cX2_fillPair_15
    simp (disch := first | assumption | omega) only [obs, qle, ↓lm1, l0, qn_add, pk_mul, n_le, n_lt, n_eq, n_sM, n_Ms, n_Mlt, n_Mle, n_ltM, n_leM, ↓reduceIte, eq_self, if_pos, if_neg, qx, p0_0, p0_1, p0_2, p0_3, p2_0, p4_0, p4_1, p4_2, p4_3, p4_4, p4_5, p8_1, p8_5, p8_6, p8_7, p14_0, p14_4, p14_5, p18_1, p18_2, p51_4, p51_5, p51_8, p51_9, p51_10, p51_11, p51_12, p51_14, r3, w3, r6, w6, r7, w7, r9, w9, r10, w10, r11, w11, r12, w12, r15, w15, r16, w16, r17, w17, r19, w19, r20, w20, r53, w53, r54, w54, r55, w55, r56, w56, r57, w57, r58, w58, r59, w59, r60, w60, a1, a5, pt2, rt2, wt2, pt3, rt3, wt3, pt4, rt4, wt4, pt5, rt5, wt5, pm2, rm2, wm2, pm3, rm3, wm3, pm4, rm4, wm4, pm5, rm5, wm5, l1, l2, l3, l5, l6, l7, l8, l10, l11, l12, l31, l36, l63, l100, l1000, l1440, l1000000, l16777216]
