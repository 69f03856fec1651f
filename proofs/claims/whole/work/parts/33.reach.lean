/-! THE CLASS'S SEARCH: steps, what is known, and the search itself -/
def nxm (ns : Nat → Nat) (st : Nat → Nat → Nat) (code : Nat) : Nat → Nat
  | 0 => 0
  | k + 1 => if dg code k < ns k then nxm ns st code k ||| 2 ^ (st k (dg code k)) else nxm ns st code k
theorem nxm_bit {ns : Nat → Nat} {st : Nat → Nat → Nat} {code s : Nat} : ∀ n, (nxm ns st code n).testBit s = true ↔ ∃ k, k < n ∧ adv ns st code s k = 1 := by
  intro n
  induction n with
  | zero =>
    rw [nxm, Nat.zero_testBit]
    exact ⟨fun h => by simp at h, fun ⟨j, h1, _⟩ => by omega⟩
  | succ n ih =>
    rw [nxm]
    by_cases hd : dg code n < ns n
    · rw [if_pos hd, Nat.testBit_or, Bool.or_eq_true, ih, Nat.testBit_two_pow]
      constructor
      · rintro (⟨j, h1, h2⟩ | h)
        · exact ⟨j, by omega, h2⟩
        · exact ⟨n, by omega, by rw [adv, if_pos ⟨hd, by simpa using h⟩]⟩
      · rintro ⟨j, h1, h2⟩
        by_cases e : j = n
        · subst e; exact Or.inr (by simpa using (adv_1 h2).2)
        · exact Or.inl ⟨j, by omega, h2⟩
    · rw [if_neg hd, ih]
      constructor
      · rintro ⟨j, h1, h2⟩
        exact ⟨j, by omega, h2⟩
      · rintro ⟨j, h1, h2⟩
        by_cases e : j = n
        · subst e; exact absurd (adv_1 h2).1 hd
        · exact ⟨j, by omega, h2⟩
theorem nextStations_eq {N c code : Nat} {ns : Nat → Nat} {st : Nat → Nat → Nat} {R : qR} {I : qI} (hN : 300000 ≤ N) (hL : LR R) (hT : PT c ns st I) (w : wf c ns st) (hp : pl c ns code) : fX2_nextStations N R I 8 (nI code) = some (nI (nxm ns st code c)) := by
  obtain ⟨hc2, hc3, hn, hpr⟩ := hT
  have b8 := p8c w.1
  have hc6 := w.1
  have hc : code < 262144 := by have := hp.1; omega
  unfold fX2_nextStations
  refine bind_of (qfor (fun k => (nI (nxm ns st code k), nI k)) (nI (nxm ns st code c)) c (by omega) (fun k hk => ?_) ?_) rfl
  · have d8 := dg_lt code k
    have hpk := hp.2 k hk
    by_cases hd : dg code k < ns k
    · have a1 := (hn k hk).1 _ hd
      have a2 := w.2.2 k _ hk hd
      simp (disch := first | assumption | omega) only [obs, qle, ↓lm1, l0, qn_add, pk_mul, n_le, n_lt, n_eq, n_sM, n_Ms, n_Mlt, n_Mle, n_ltM, n_leM, ↓reduceIte, eq_self, if_pos, if_neg, qx, p0_0, p0_1, p0_2, p0_3, p2_0, p4_0, p4_1, p4_2, p4_3, p4_4, p4_5, p8_1, p8_5, p8_6, p8_7, p14_0, p14_4, p14_5, p18_1, p18_2, p51_4, p51_5, p51_8, p51_9, p51_10, p51_11, p51_12, p51_14, r3, w3, r6, w6, r7, w7, r9, w9, r10, w10, r11, w11, r12, w12, r15, w15, r16, w16, r17, w17, r19, w19, r20, w20, r53, w53, r54, w54, r55, w55, r56, w56, r57, w57, r58, w58, r59, w59, r60, w60, a1, a5, pt2, rt2, wt2, pt3, rt3, wt3, pt4, rt4, wt4, pt5, rt5, wt5, pm2, rm2, wm2, pm3, rm3, wm3, pm4, rm4, wm4, pm5, rm5, wm5, l1, l2, l3, l5, l6, l7, l8, l10, l11, l12, l31, l36, l63, l100, l1000, l1440, l1000000, l16777216, cX2_nextStations_4, fX2_placeOf, hc2, n_dig, a1, n_1s, fa_or, nxm]
    · have a1 := (hn k hk).2.1
      have e : dg code k = ns k := by omega
      rw [← e] at a1
      simp (disch := first | assumption | omega) only [obs, qle, ↓lm1, l0, qn_add, pk_mul, n_le, n_lt, n_eq, n_sM, n_Ms, n_Mlt, n_Mle, n_ltM, n_leM, ↓reduceIte, eq_self, if_pos, if_neg, qx, p0_0, p0_1, p0_2, p0_3, p2_0, p4_0, p4_1, p4_2, p4_3, p4_4, p4_5, p8_1, p8_5, p8_6, p8_7, p14_0, p14_4, p14_5, p18_1, p18_2, p51_4, p51_5, p51_8, p51_9, p51_10, p51_11, p51_12, p51_14, r3, w3, r6, w6, r7, w7, r9, w9, r10, w10, r11, w11, r12, w12, r15, w15, r16, w16, r17, w17, r19, w19, r20, w20, r53, w53, r54, w54, r55, w55, r56, w56, r57, w57, r58, w58, r59, w59, r60, w60, a1, a5, pt2, rt2, wt2, pt3, rt3, wt3, pt4, rt4, wt4, pt5, rt5, wt5, pm2, rm2, wm2, pm3, rm3, wm3, pm4, rm4, wm4, pm5, rm5, wm5, l1, l2, l3, l5, l6, l7, l8, l10, l11, l12, l31, l36, l63, l100, l1000, l1440, l1000000, l16777216, cX2_nextStations_4, fX2_placeOf, hc2, n_dig, a1, nxm]
  · simp (disch := first | assumption | omega) only [obs, qle, ↓lm1, l0, qn_add, pk_mul, n_le, n_lt, n_eq, n_sM, n_Ms, n_Mlt, n_Mle, n_ltM, n_leM, ↓reduceIte, eq_self, if_pos, if_neg, qx, p0_0, p0_1, p0_2, p0_3, p2_0, p4_0, p4_1, p4_2, p4_3, p4_4, p4_5, p8_1, p8_5, p8_6, p8_7, p14_0, p14_4, p14_5, p18_1, p18_2, p51_4, p51_5, p51_8, p51_9, p51_10, p51_11, p51_12, p51_14, r3, w3, r6, w6, r7, w7, r9, w9, r10, w10, r11, w11, r12, w12, r15, w15, r16, w16, r17, w17, r19, w19, r20, w20, r53, w53, r54, w54, r55, w55, r56, w56, r57, w57, r58, w58, r59, w59, r60, w60, a1, a5, pt2, rt2, wt2, pt3, rt3, wt3, pt4, rt4, wt4, pt5, rt5, wt5, pm2, rm2, wm2, pm3, rm3, wm3, pm4, rm4, wm4, pm5, rm5, wm5, l1, l2, l3, l5, l6, l7, l8, l10, l11, l12, l31, l36, l63, l100, l1000, l1440, l1000000, l16777216, cX2_nextStations_4, hc2]
theorem passed_eq {N c code s : Nat} {ns : Nat → Nat} {st : Nat → Nat → Nat} {R : qR} {I : qI} (hN : 300000 ≤ N) (hL : LR R) (hT : PT c ns st I) (w : wf c ns st) (hp : pl c ns code) (hs : s < 12) : fX2_passed N R I 8 (nI code) (nI s) = some (nI (bh ns st code s c)) := by
  obtain ⟨hc2, hc3, hn, hpr⟩ := hT
  have b8 := p8c w.1
  have hc6 := w.1
  have hc : code < 262144 := by have := hp.1; omega
  unfold fX2_passed
  refine bind_of (qfor (fun k => (nI (bh ns st code s k), nI k)) (nI (bh ns st code s c)) c (by omega) (fun k hk => ?_) ?_) rfl
  · have d8 := dg_lt code k
    have hpk := hp.2 k hk
    rw [bh]
    by_cases hd : dg code k < ns k
    · have a1 := (hn k hk).1 _ hd
      have a2 := w.2.2 k _ hk hd
      by_cases hss : st k (dg code k) = s
      · rw [if_pos ⟨hd, hss⟩]
        simp (disch := first | assumption | omega) only [obs, qle, ↓lm1, l0, qn_add, pk_mul, n_le, n_lt, n_eq, n_sM, n_Ms, n_Mlt, n_Mle, n_ltM, n_leM, ↓reduceIte, eq_self, if_pos, if_neg, qx, p0_0, p0_1, p0_2, p0_3, p2_0, p4_0, p4_1, p4_2, p4_3, p4_4, p4_5, p8_1, p8_5, p8_6, p8_7, p14_0, p14_4, p14_5, p18_1, p18_2, p51_4, p51_5, p51_8, p51_9, p51_10, p51_11, p51_12, p51_14, r3, w3, r6, w6, r7, w7, r9, w9, r10, w10, r11, w11, r12, w12, r15, w15, r16, w16, r17, w17, r19, w19, r20, w20, r53, w53, r54, w54, r55, w55, r56, w56, r57, w57, r58, w58, r59, w59, r60, w60, a1, a5, pt2, rt2, wt2, pt3, rt3, wt3, pt4, rt4, wt4, pt5, rt5, wt5, pm2, rm2, wm2, pm3, rm3, wm3, pm4, rm4, wm4, pm5, rm5, wm5, l1, l2, l3, l5, l6, l7, l8, l10, l11, l12, l31, l36, l63, l100, l1000, l1440, l1000000, l16777216, cX2_passed_5, fX2_placeOf, hc2, n_dig, a1, n_18]
      · rw [if_neg (fun q => hss q.2)]
        simp (disch := first | assumption | omega) only [obs, qle, ↓lm1, l0, qn_add, pk_mul, n_le, n_lt, n_eq, n_sM, n_Ms, n_Mlt, n_Mle, n_ltM, n_leM, ↓reduceIte, eq_self, if_pos, if_neg, qx, p0_0, p0_1, p0_2, p0_3, p2_0, p4_0, p4_1, p4_2, p4_3, p4_4, p4_5, p8_1, p8_5, p8_6, p8_7, p14_0, p14_4, p14_5, p18_1, p18_2, p51_4, p51_5, p51_8, p51_9, p51_10, p51_11, p51_12, p51_14, r3, w3, r6, w6, r7, w7, r9, w9, r10, w10, r11, w11, r12, w12, r15, w15, r16, w16, r17, w17, r19, w19, r20, w20, r53, w53, r54, w54, r55, w55, r56, w56, r57, w57, r58, w58, r59, w59, r60, w60, a1, a5, pt2, rt2, wt2, pt3, rt3, wt3, pt4, rt4, wt4, pt5, rt5, wt5, pm2, rm2, wm2, pm3, rm3, wm3, pm4, rm4, wm4, pm5, rm5, wm5, l1, l2, l3, l5, l6, l7, l8, l10, l11, l12, l31, l36, l63, l100, l1000, l1440, l1000000, l16777216, cX2_passed_5, fX2_placeOf, hc2, n_dig, a1, n_18]
    · have a1 := (hn k hk).2.1
      have e : dg code k = ns k := by omega
      rw [← e] at a1
      rw [if_neg (fun q => hd q.1)]
      simp (disch := first | assumption | omega) only [obs, qle, ↓lm1, l0, qn_add, pk_mul, n_le, n_lt, n_eq, n_sM, n_Ms, n_Mlt, n_Mle, n_ltM, n_leM, ↓reduceIte, eq_self, if_pos, if_neg, qx, p0_0, p0_1, p0_2, p0_3, p2_0, p4_0, p4_1, p4_2, p4_3, p4_4, p4_5, p8_1, p8_5, p8_6, p8_7, p14_0, p14_4, p14_5, p18_1, p18_2, p51_4, p51_5, p51_8, p51_9, p51_10, p51_11, p51_12, p51_14, r3, w3, r6, w6, r7, w7, r9, w9, r10, w10, r11, w11, r12, w12, r15, w15, r16, w16, r17, w17, r19, w19, r20, w20, r53, w53, r54, w54, r55, w55, r56, w56, r57, w57, r58, w58, r59, w59, r60, w60, a1, a5, pt2, rt2, wt2, pt3, rt3, wt3, pt4, rt4, wt4, pt5, rt5, wt5, pm2, rm2, wm2, pm3, rm3, wm3, pm4, rm4, wm4, pm5, rm5, wm5, l1, l2, l3, l5, l6, l7, l8, l10, l11, l12, l31, l36, l63, l100, l1000, l1440, l1000000, l16777216, cX2_passed_5, fX2_placeOf, hc2, n_dig, a1]
  · simp (disch := first | assumption | omega) only [obs, qle, ↓lm1, l0, qn_add, pk_mul, n_le, n_lt, n_eq, n_sM, n_Ms, n_Mlt, n_Mle, n_ltM, n_leM, ↓reduceIte, eq_self, if_pos, if_neg, qx, p0_0, p0_1, p0_2, p0_3, p2_0, p4_0, p4_1, p4_2, p4_3, p4_4, p4_5, p8_1, p8_5, p8_6, p8_7, p14_0, p14_4, p14_5, p18_1, p18_2, p51_4, p51_5, p51_8, p51_9, p51_10, p51_11, p51_12, p51_14, r3, w3, r6, w6, r7, w7, r9, w9, r10, w10, r11, w11, r12, w12, r15, w15, r16, w16, r17, w17, r19, w19, r20, w20, r53, w53, r54, w54, r55, w55, r56, w56, r57, w57, r58, w58, r59, w59, r60, w60, a1, a5, pt2, rt2, wt2, pt3, rt3, wt3, pt4, rt4, wt4, pt5, rt5, wt5, pm2, rm2, wm2, pm3, rm3, wm3, pm4, rm4, wm4, pm5, rm5, wm5, l1, l2, l3, l5, l6, l7, l8, l10, l11, l12, l31, l36, l63, l100, l1000, l1440, l1000000, l16777216, cX2_passed_5, hc2]
/-- the cell of what is known -/
def KR (R : qR) (kn len : Nat) : Prop := R.1 8 8 = some kn ∧ (R.2.1 kn).2 = len ∧ (kn = 13 ∨ 138 ≤ kn) ∧ kn < R.2.2.1 ∧ len ≤ 262144
def KI (c : Nat) (ns : Nat → Nat) (st : Nat → Nat → Nat) (kn len S : Nat) (I : qI) : Prop := I 8 4 = nI S ∧ S < 16777216 ∧ ∀ x, x < len → ∃ v, I kn x = nI v ∧ v < 64 * (S + 1) ∧ (x < 8 ^ c → v / 64 = S → pl c ns x → ∀ n, rch c ns st n x → v % 64 ≤ n)
theorem or_64 {S need : Nat} (h : need < 64) : S * 2 ^ 6 ||| need = S * 64 + need := by
  have := Nat.two_pow_add_eq_or_of_lt (i := 6) (b := need) h S
  rw [Nat.mul_comm] at this
  rw [← this]
theorem keep_eq {c kn len S code need : Nat} {ns : Nat → Nat} {st : Nat → Nat → Nat} {R : qR} {I : qI} (hK : KR R kn len) (hI : KI c ns st kn len S I) (hc : code < len) (hn : need < 64) : fX2_keep R I 8 (nI code) (nI need) = some (qup I kn code (nI (S * 64 + need))) := by
  obtain ⟨k1, k2, k3, k4, k5⟩ := hK
  obtain ⟨i1, i2, i3⟩ := hI
  have ew : ∀ v, qwr I R kn (nI code) v = some (qup I kn code v) := fun v => wrn k2 hc (by omega)
  unfold fX2_keep
  simp (disch := first | assumption | omega) only [obs, qle, ↓lm1, l0, qn_add, pk_mul, n_le, n_lt, n_eq, n_sM, n_Ms, n_Mlt, n_Mle, n_ltM, n_leM, ↓reduceIte, eq_self, if_pos, if_neg, qx, p0_0, p0_1, p0_2, p0_3, p2_0, p4_0, p4_1, p4_2, p4_3, p4_4, p4_5, p8_1, p8_5, p8_6, p8_7, p14_0, p14_4, p14_5, p18_1, p18_2, p51_4, p51_5, p51_8, p51_9, p51_10, p51_11, p51_12, p51_14, r3, w3, r6, w6, r7, w7, r9, w9, r10, w10, r11, w11, r12, w12, r15, w15, r16, w16, r17, w17, r19, w19, r20, w20, r53, w53, r54, w54, r55, w55, r56, w56, r57, w57, r58, w58, r59, w59, r60, w60, a1, a5, pt2, rt2, wt2, pt3, rt3, wt3, pt4, rt4, wt4, pt5, rt5, wt5, pm2, rm2, wm2, pm3, rm3, wm3, pm4, rm4, wm4, pm5, rm5, wm5, l1, l2, l3, l5, l6, l7, l8, l10, l11, l12, l31, l36, l63, l100, l1000, l1440, l1000000, l16777216, k1, i1, n_shl, fa_or, or_64 hn, ew]
theorem KI.keep {c kn len S code need : Nat} {ns : Nat → Nat} {st : Nat → Nat → Nat} {R : qR} {I : qI} (hK : KR R kn len) (hI : KI c ns st kn len S I) (hn : need < 64) (hb : pl c ns code → ∀ n, rch c ns st n code → need ≤ n) : KI c ns st kn len S (qup I kn code (nI (S * 64 + need))) := by
  obtain ⟨k1, k2, k3, k4, k5⟩ := hK
  obtain ⟨i1, i2, i3⟩ := hI
  refine ⟨by rw [qup_off (by omega)]; exact i1, i2, fun x hx => ?_⟩
  by_cases e : x = code
  · subst e
    refine ⟨S * 64 + need, qup_on, by omega, fun _ _ hp n hr => ?_⟩
    have := hb hp n hr
    omega
  · obtain ⟨v, v1, v2, v3⟩ := i3 x hx
    exact ⟨v, by rw [qup_off (by omega)]; exact v1, v2, v3⟩
theorem needOf_ok {N c kn len S code : Nat} {ns : Nat → Nat} {st : Nat → Nat → Nat} {R : qR} {I : qI} (hN : 300000 ≤ N) (hL : LR R) (hT : PT c ns st I) (w : wf c ns st) (h0 : 0 < c) (hp : pl c ns code) (hK : KR R kn len) (hlen : 8 ^ c ≤ len) (hI : KI c ns st kn len S I) : ok (fX2_needOf N R I 8 (nI code)) (fun y => ∃ need, y.1 = nI need ∧ need < 64 ∧ (∀ n, rch c ns st n code → need ≤ n) ∧ KI c ns st kn len S y.2 ∧ ∀ a, a ≠ kn → y.2 a = I a) := by
  have hcl : code < len := Nat.lt_of_lt_of_le hp.1 hlen
  obtain ⟨v, v1, v2, v3⟩ := hI.2.2 code hcl
  have hS := hI.2.1
  have i1 := hI.1
  have er : ∀ J : qI, qrd J R kn (nI code) = some (J kn code) := fun J => rdn hK.2.1 hcl (by have := hK.2.2.2.2; omega)
  have k1 := hK.1
  have e6 : (2 : Nat) ^ 6 = 64 := rfl
  have hm64 : v % 64 < 64 := Nat.mod_lt _ (by omega)
  unfold fX2_needOf
  by_cases hv : v / 64 = S
  · refine ⟨(nI (v % 64), I), ?_, v % 64, rfl, by omega, fun n hr => v3 hp.1 hv hp n hr, hI, fun _ _ => rfl⟩
    simp (disch := first | assumption | omega) only [obs, qle, ↓lm1, l0, qn_add, pk_mul, n_le, n_lt, n_eq, n_sM, n_Ms, n_Mlt, n_Mle, n_ltM, n_leM, ↓reduceIte, eq_self, if_pos, if_neg, qx, p0_0, p0_1, p0_2, p0_3, p2_0, p4_0, p4_1, p4_2, p4_3, p4_4, p4_5, p8_1, p8_5, p8_6, p8_7, p14_0, p14_4, p14_5, p18_1, p18_2, p51_4, p51_5, p51_8, p51_9, p51_10, p51_11, p51_12, p51_14, r3, w3, r6, w6, r7, w7, r9, w9, r10, w10, r11, w11, r12, w12, r15, w15, r16, w16, r17, w17, r19, w19, r20, w20, r53, w53, r54, w54, r55, w55, r56, w56, r57, w57, r58, w58, r59, w59, r60, w60, a1, a5, pt2, rt2, wt2, pt3, rt3, wt3, pt4, rt4, wt4, pt5, rt5, wt5, pm2, rm2, wm2, pm3, rm3, wm3, pm4, rm4, wm4, pm5, rm5, wm5, l1, l2, l3, l5, l6, l7, l8, l10, l11, l12, l31, l36, l63, l100, l1000, l1440, l1000000, l16777216, k1, er, v1, i1, n_shr, e6, n_and63]
  · have hl := leastNeed_eq (N := N) hN hL hT w h0 hp
    have h27 := lN_26 c ns st (code := code) w h0
    have hk := keep_eq (need := lN0 c ns st code) hK hI hcl (by omega)
    have e3 : qup I kn code (nI (S * 64 + lN0 c ns st code)) kn code = nI (S * 64 + lN0 c ns st code) := qup_on
    have e4 : (S * 64 + lN0 c ns st code) % 64 = lN0 c ns st code := by omega
    refine ⟨(nI (lN0 c ns st code), qup I kn code (nI (S * 64 + lN0 c ns st code))), ?_, lN0 c ns st code, rfl, by omega, fun n hr => lN_low c ns st w h0 hp hr, hI.keep hK (by omega) (fun hp n hr => lN_low c ns st w h0 hp hr), fun a ha => qup_ne _ _ _ ha⟩
    simp (disch := first | assumption | omega) only [obs, qle, ↓lm1, l0, qn_add, pk_mul, n_le, n_lt, n_eq, n_sM, n_Ms, n_Mlt, n_Mle, n_ltM, n_leM, ↓reduceIte, eq_self, if_pos, if_neg, qx, p0_0, p0_1, p0_2, p0_3, p2_0, p4_0, p4_1, p4_2, p4_3, p4_4, p4_5, p8_1, p8_5, p8_6, p8_7, p14_0, p14_4, p14_5, p18_1, p18_2, p51_4, p51_5, p51_8, p51_9, p51_10, p51_11, p51_12, p51_14, r3, w3, r6, w6, r7, w7, r9, w9, r10, w10, r11, w11, r12, w12, r15, w15, r16, w16, r17, w17, r19, w19, r20, w20, r53, w53, r54, w54, r55, w55, r56, w56, r57, w57, r58, w58, r59, w59, r60, w60, a1, a5, pt2, rt2, wt2, pt3, rt3, wt3, pt4, rt4, wt4, pt5, rt5, wt5, pm2, rm2, wm2, pm3, rm3, wm3, pm4, rm4, wm4, pm5, rm5, wm5, l1, l2, l3, l5, l6, l7, l8, l10, l11, l12, l31, l36, l63, l100, l1000, l1440, l1000000, l16777216, k1, er, v1, i1, n_shr, e6, n_and63, hl, hk, e3, e4]
/-- entries of the row are stations -/
def PV (I : qI) : Prop := ∀ i, i < 42 → ∃ x, x < 12 ∧ I 9 i = nI x
def pth (I : qI) (i : Nat) : Nat := (I 9 i).toInt.toNat
theorem PV.at {I : qI} (h : PV I) {i : Nat} (hi : i < 42) : pth I i < 12 ∧ I 9 i = nI (pth I i) := by
  obtain ⟨x, h1, h2⟩ := h i hi
  have : pth I i = x := by unfold pth; rw [h2, tI_nI (by omega)]; rfl
  rw [this]
  exact ⟨h1, h2⟩
theorem pth_nI {I : qI} {i s : Nat} (h : I 9 i = nI s) (hs : s < 12) : pth I i = s := by unfold pth; rw [h, tI_nI (by omega)]; rfl
theorem rch_end {c n : Nat} {ns : Nat → Nat} {st : Nat → Nat → Nat} : rch c ns st n (enc ns c) := by
  cases n with
  | zero => rfl
  | succ n => exact Or.inl rfl
theorem pw_end {c n pos : Nat} {ns : Nat → Nat} {st : Nat → Nat → Nat} {p : Nat → Nat} : pw c ns st p pos n (enc ns c) := by
  cases n with
  | zero => rfl
  | succ n => exact Or.inl rfl
/-- what a search leaves: the known grows, the row is written behind a place -/
def RP (c : Nat) (ns : Nat → Nat) (st : Nat → Nat → Nat) (kn len S pos : Nat) (I J : qI) : Prop := KI c ns st kn len S J ∧ PV J ∧ (∀ a, a ≠ kn → a ≠ 9 → J a = I a) ∧ ∀ i, i < pos → J 9 i = I 9 i
theorem reach_ok {N c kn len S L : Nat} {ns : Nat → Nat} {st : Nat → Nat → Nat} {R : qR} (hN : 300000 ≤ N) (hL : LR R) (w : wf c ns st) (h0 : 0 < c) (hK : KR R kn len) (hlen : 8 ^ c ≤ len) (hL42 : L ≤ 42) : ∀ left fuel, left < fuel → ∀ (I : qI) (code : Nat), pl c ns code → PT c ns st I → KI c ns st kn len S I → PV I → I 8 0 = nI L → left ≤ L → ok (fX2_reach N fuel R I 8 (nI code) (nI left)) (fun y => RP c ns st kn len S (L - left) I y.2 ∧ ((rch c ns st left code ∧ y.1 = nI 1 ∧ pw c ns st (pth y.2) (L - left) left code) ∨ (¬ rch c ns st left code ∧ y.1 = nI 0))) := by
  have b8 := p8c w.1
  have hel := en_lt c ns st w
  obtain ⟨k1, k2, k3, k4, k5⟩ := id hK
  intro left
  induction left with
  | zero =>
    intro fuel hf I code hp hT hI hV hI0 hle
    obtain ⟨fuel, rfl⟩ : ∃ f, fuel = f + 1 := ⟨fuel - 1, by omega⟩
    have hpc := hp.1
    have c3 := hT.2.1
    show ok (bX2_reach N (fX2_reach N fuel) R I 8 (nI code) (nI 0)) _
    unfold bX2_reach
    have hRP : RP c ns st kn len S (L - 0) I I := ⟨hI, hV, fun _ _ _ => rfl, fun _ _ => rfl⟩
    by_cases he : code = enc ns c
    · refine ⟨(nI 1, I), ?_, hRP, Or.inl ⟨he, rfl, he⟩⟩
      simp (disch := first | assumption | omega) only [obs, qle, ↓lm1, l0, qn_add, pk_mul, n_le, n_lt, n_eq, n_sM, n_Ms, n_Mlt, n_Mle, n_ltM, n_leM, ↓reduceIte, eq_self, if_pos, if_neg, qx, p0_0, p0_1, p0_2, p0_3, p2_0, p4_0, p4_1, p4_2, p4_3, p4_4, p4_5, p8_1, p8_5, p8_6, p8_7, p14_0, p14_4, p14_5, p18_1, p18_2, p51_4, p51_5, p51_8, p51_9, p51_10, p51_11, p51_12, p51_14, r3, w3, r6, w6, r7, w7, r9, w9, r10, w10, r11, w11, r12, w12, r15, w15, r16, w16, r17, w17, r19, w19, r20, w20, r53, w53, r54, w54, r55, w55, r56, w56, r57, w57, r58, w58, r59, w59, r60, w60, a1, a5, pt2, rt2, wt2, pt3, rt3, wt3, pt4, rt4, wt4, pt5, rt5, wt5, pm2, rm2, wm2, pm3, rm3, wm3, pm4, rm4, wm4, pm5, rm5, wm5, l1, l2, l3, l5, l6, l7, l8, l10, l11, l12, l31, l36, l63, l100, l1000, l1440, l1000000, l16777216, c3]
    · refine ⟨(nI 0, I), ?_, hRP, Or.inr ⟨he, rfl⟩⟩
      simp (disch := first | assumption | omega) only [obs, qle, ↓lm1, l0, qn_add, pk_mul, n_le, n_lt, n_eq, n_sM, n_Ms, n_Mlt, n_Mle, n_ltM, n_leM, ↓reduceIte, eq_self, if_pos, if_neg, qx, p0_0, p0_1, p0_2, p0_3, p2_0, p4_0, p4_1, p4_2, p4_3, p4_4, p4_5, p8_1, p8_5, p8_6, p8_7, p14_0, p14_4, p14_5, p18_1, p18_2, p51_4, p51_5, p51_8, p51_9, p51_10, p51_11, p51_12, p51_14, r3, w3, r6, w6, r7, w7, r9, w9, r10, w10, r11, w11, r12, w12, r15, w15, r16, w16, r17, w17, r19, w19, r20, w20, r53, w53, r54, w54, r55, w55, r56, w56, r57, w57, r58, w58, r59, w59, r60, w60, a1, a5, pt2, rt2, wt2, pt3, rt3, wt3, pt4, rt4, wt4, pt5, rt5, wt5, pm2, rm2, wm2, pm3, rm3, wm3, pm4, rm4, wm4, pm5, rm5, wm5, l1, l2, l3, l5, l6, l7, l8, l10, l11, l12, l31, l36, l63, l100, l1000, l1440, l1000000, l16777216, c3]
  | succ l ih =>
    intro fuel hf I code hp hT hI hV hI0 hle
    obtain ⟨fuel, rfl⟩ : ∃ f, fuel = f + 1 := ⟨fuel - 1, by omega⟩
    have hpc := hp.1
    have c3 := hT.2.1
    show ok (bX2_reach N (fX2_reach N fuel) R I 8 (nI code) (nI (l + 1))) _
    unfold bX2_reach
    by_cases he : code = enc ns c
    · refine ⟨(nI 1, I), ?_, ⟨hI, hV, fun _ _ _ => rfl, fun _ _ => rfl⟩, Or.inl ⟨Or.inl he, rfl, Or.inl he⟩⟩
      simp (disch := first | assumption | omega) only [obs, qle, ↓lm1, l0, qn_add, pk_mul, n_le, n_lt, n_eq, n_sM, n_Ms, n_Mlt, n_Mle, n_ltM, n_leM, ↓reduceIte, eq_self, if_pos, if_neg, qx, p0_0, p0_1, p0_2, p0_3, p2_0, p4_0, p4_1, p4_2, p4_3, p4_4, p4_5, p8_1, p8_5, p8_6, p8_7, p14_0, p14_4, p14_5, p18_1, p18_2, p51_4, p51_5, p51_8, p51_9, p51_10, p51_11, p51_12, p51_14, r3, w3, r6, w6, r7, w7, r9, w9, r10, w10, r11, w11, r12, w12, r15, w15, r16, w16, r17, w17, r19, w19, r20, w20, r53, w53, r54, w54, r55, w55, r56, w56, r57, w57, r58, w58, r59, w59, r60, w60, a1, a5, pt2, rt2, wt2, pt3, rt3, wt3, pt4, rt4, wt4, pt5, rt5, wt5, pm2, rm2, wm2, pm3, rm3, wm3, pm4, rm4, wm4, pm5, rm5, wm5, l1, l2, l3, l5, l6, l7, l8, l10, l11, l12, l31, l36, l63, l100, l1000, l1440, l1000000, l16777216, c3]
    · rw [if_neg (show ¬ nI code = I 8 3 by rw [c3, n_eq (by omega) (by omega)]; exact he), if_neg (show ¬ nI (l + 1) ≤ 0 by rw [l0, n_le (by omega) (by omega)]; omega)]
      refine ok_bind (ok_mono (needOf_ok (N := N) hN hL hT w h0 hp hK hlen hI) (fun y hy => ?_))
      obtain ⟨need, n1, n2, n3, n4, n5⟩ := hy
      obtain ⟨y1, J0⟩ := y
      simp only at n1 n4 n5
      subst n1
      have hTJ : PT c ns st J0 := hT.congr (by rw [n5 _ (by omega)]) (by rw [n5 _ (by omega)]) (n5 _ (by omega)) (n5 _ (by omega)) (n5 _ (by omega))
      have hVJ : PV J0 := fun i hi => by rw [n5 9 (by omega)]; exact hV i hi
      by_cases hnl : need ≤ l + 1
      · refine ok_if (fun _ => ?_) (fun q => absurd (show nI need ≤ nI (l + 1) by rw [n_le (by omega) (by omega)]; exact hnl) q)
        refine ok_bindv (nextStations_eq (N := N) hN hL hTJ w hp) ?_
        refine ok_bind (ok_mono (P := fun o => match o with
          | .inl J => (∀ s, s < 12 → bh ns st code s c ≠ code → ¬ rch c ns st l (bh ns st code s c)) ∧ RP c ns st kn len S (L - (l + 1)) I J
          | .inr q => q.1 = nI 1 ∧ rch c ns st (l + 1) code ∧ pw c ns st (pth q.2) (L - (l + 1)) (l + 1) code ∧ RP c ns st kn len S (L - (l + 1)) I q.2) ?_ (fun o ho => ?_))
        · refine ok_for (fun s q => ∃ J, q = (nI s, J) ∧ (∀ s2, s2 < s → bh ns st code s2 c ≠ code → ¬ rch c ns st l (bh ns st code s2 c)) ∧ RP c ns st kn len S (L - (l + 1)) I J) 12 (by omega) ⟨J0, rfl, fun s hs => by omega, n4, hVJ, fun a h1 h2 => n5 a h1, fun i _ => by rw [n5 9 (by omega)]⟩ (fun s q hs hq => ?_) (fun q hq => ?_)
          · obtain ⟨J, rfl, q1, q2, q3, q4, q5⟩ := hq
            have hTK : PT c ns st J := hT.congr (by rw [q4 _ (by omega) (by omega)]) (by rw [q4 _ (by omega) (by omega)]) (q4 _ (by omega) (by omega)) (q4 _ (by omega) (by omega)) (q4 _ (by omega) (by omega))
            have hJ0 : J 8 0 = nI L := by rw [q4 _ (by omega) (by omega)]; exact hI0
            show ok (cX2_reach_34 N (fX2_reach N fuel) R 8 (nI code) (nI (l + 1)) (nI (nxm ns st code c)) (nI s) J) _
            unfold cX2_reach_34
            rw [if_neg (show ¬ (12 : Int32) ≤ nI s by rw [l12, n_le (by omega) (by omega)]; omega)]
            by_cases hbit : (nxm ns st code c).testBit s = true
            · have hbne : bh ns st code s c ≠ code := by
                obtain ⟨k, hk, ha⟩ := (nxm_bit c).mp hbit
                exact bh_ne c ns st w hp.1 hk ha
              rw [if_neg (show ¬ ((nI (nxm ns st code c) >>> (nI s &&& 31)) &&& (1 : Int32)) = 0 by rw [q_bit _ _ (by omega), hbit]; simp)]
              refine ok_bindv (passed_eq (N := N) hN hL hTK w hp hs) ?_
              rw [show nI (l + 1) - (1 : Int32) = nI l from nI_pred l]
              refine ok_bind (ok_mono (ih fuel (by omega) J _ (pl_bh c ns st s w hp) hTK q2 q3 hJ0 (by omega)) (fun y hy => ?_))
              obtain ⟨y1, K⟩ := y
              obtain ⟨⟨r1, r2, r3, r4⟩, hy⟩ := hy
              simp only at r1 r2 r3 r4 hy
              have hfr : ∀ a, a ≠ kn → a ≠ 9 → K a = I a := fun a h1 h2 => (r3 a h1 h2).trans (q4 a h1 h2)
              have hp5 : ∀ i, i < L - (l + 1) → K 9 i = I 9 i := fun i hi => (r4 i (by omega)).trans (q5 i hi)
              rcases hy with ⟨t1, t2, t3⟩ | ⟨t1, t2⟩
              · subst t2
                rw [if_neg (show ¬ nI 1 = 0 by decide)]
                refine ok_bindv (p8_1 hL) ?_
                have hK0 : K 8 0 = nI L := by rw [hfr 8 (by omega) (by omega)]; exact hI0
                simp only
                rw [hK0, qn_sub (by omega)]
                have hpw2 : pw c ns st (pth (qup K 9 (L - (l + 1)) (nI s))) (L - (l + 1)) (l + 1) code := by
                  have e : pth (qup K 9 (L - (l + 1)) (nI s)) (L - (l + 1)) = s := pth_nI qup_on hs
                  refine Or.inr ?_
                  rw [e]
                  refine ⟨hs, hbne, t1, q1, ?_⟩
                  rw [show L - (l + 1) + 1 = L - l by omega]
                  refine pw_congr c ns st l _ _ (fun i h1 h2 => ?_) t3
                  unfold pth
                  rw [qup_off (by omega)]
                have hrp2 : RP c ns st kn len S (L - (l + 1)) I (qup K 9 (L - (l + 1)) (nI s)) := by
                  refine ⟨⟨by rw [qup_off (by omega)]; exact r1.1, r1.2.1, fun x hx => by rw [qup_off (by omega)]; exact r1.2.2 x hx⟩, fun i hi => ?_, fun a h1 h2 => by rw [qup_ne _ _ _ h2]; exact hfr a h1 h2, fun i hi => by rw [qup_off (by omega)]; exact hp5 i hi⟩
                  by_cases ei : i = L - (l + 1)
                  · subst ei; exact ⟨s, hs, qup_on⟩
                  · rw [qup_off (by omega)]; exact r2 i hi
                exact ok_bindv (w9 hL (by omega)) (ok_some ⟨rfl, Or.inr ⟨s, hs, hbne, t1⟩, hpw2, hrp2⟩)
              · subst t2
                rw [if_pos (show nI 0 = 0 by decide)]
                refine ok_some ⟨K, by rw [nI_succ], fun s2 hs2 hb2 => ?_, r1, r2, hfr, hp5⟩
                by_cases es : s2 = s
                · subst es; exact t1
                · exact q1 s2 (by omega) hb2
            · have hbe : bh ns st code s c = code := Classical.byContradiction (fun hb => by
                obtain ⟨k, hk, ha⟩ := bh_adv1 c ns st hb
                exact hbit ((nxm_bit c).mpr ⟨k, hk, ha⟩))
              rw [if_pos (show ((nI (nxm ns st code c) >>> (nI s &&& 31)) &&& (1 : Int32)) = 0 by rw [q_bit _ _ (by omega)]; simpa using hbit)]
              refine ok_some ⟨J, by rw [nI_succ], fun s2 hs2 hb2 => ?_, q2, q3, q4, q5⟩
              by_cases es : s2 = s
              · subst es; exact absurd hbe hb2
              · exact q1 s2 (by omega) hb2
          · obtain ⟨J, rfl, q1, q2⟩ := hq
            show ok (cX2_reach_34 N (fX2_reach N fuel) R 8 (nI code) (nI (l + 1)) (nI (nxm ns st code c)) (nI 12) J) _
            unfold cX2_reach_34
            rw [if_pos (show (12 : Int32) ≤ nI 12 by decide)]
            exact ok_some ⟨q1, q2⟩
        · cases o with
          | inl J =>
            obtain ⟨o1, o2, o3, o4, o5⟩ := ho
            have hnr : ¬ rch c ns st (l + 1) code := fun hr => by
              rcases hr with hr | ⟨s, h1, h2, h3⟩
              · exact he hr
              · exact o1 s h1 h2 h3
            have hlow : ∀ n, rch c ns st n code → l + 2 ≤ n := fun n hr => Classical.byContradiction (fun q => hnr (rch_le c ns st (by omega) hr))
            show ok ((fX2_keep R J 8 (nI code) (nI (l + 1) + 1)).bind fun y16 => some ((0 : Int32), y16)) _
            rw [nI_1]
            have hrp2 : RP c ns st kn len S (L - (l + 1)) I (qup J kn code (nI (S * 64 + (l + 1 + 1)))) := ⟨o2.keep hK (by omega) (fun _ => hlow), fun i hi => by rw [qup_off (by omega)]; exact o3 i hi, fun a h1 h2 => by rw [qup_ne _ _ _ h1]; exact o4 a h1 h2, fun i hi => by rw [qup_off (by omega)]; exact o5 i hi⟩
            exact ok_bindv (keep_eq hK o2 (by omega) (show l + 1 + 1 < 64 by omega)) (ok_some ⟨hrp2, Or.inr ⟨hnr, rfl⟩⟩)
          | inr q =>
            obtain ⟨o1, o2, o3, o4⟩ := ho
            exact ok_some ⟨o4, Or.inl ⟨o2, o1, o3⟩⟩
      · refine ok_if (fun q => absurd ((n_le (by omega) (by omega)).mp (show nI need ≤ nI (l + 1) from q)) hnl) (fun _ => ?_)
        refine ok_some ⟨⟨n4, hVJ, fun a h1 h2 => n5 a h1, fun i _ => by show J0 9 i = _; rw [n5 9 (by omega)]⟩, Or.inr ⟨fun hr => ?_, rfl⟩⟩
        have := n3 _ hr
        omega
