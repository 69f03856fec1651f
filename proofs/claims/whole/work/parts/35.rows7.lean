/-! THE CLASS'S ROWS -/
theorem ofn (n : Nat) : Int32.ofNat n = nI n := (fun (y : Int32) (e : y = nI n) => e) _ rfl
theorem qnn_n {n : Nat} (h : n ≤ 100000000) : qnn (nI n) = some n := by
  unfold qnn
  rw [nI_clamp (by omega), if_neg]
  rintro (q | q)
  · exact nI_pos (by omega) q
  · omega
def KO (kn len S : Nat) (I : qI) : Prop := I 8 4 = nI S ∧ S < 16777215 ∧ ∀ x, x < len → ∃ v, I kn x = nI v ∧ v < 64 * (S + 1)
def RG (R R2 : qR) (kn len kn2 len2 : Nat) : Prop := LR R2 ∧ KR R2 kn2 len2 ∧ R2.1 51 0 = R.1 51 0 ∧ ((R2 = R ∧ kn2 = kn ∧ len2 = len) ∨ (R2.2.2.1 = R.2.2.1 + 1 ∧ R2.2.2.2 = R.2.2.2 + len2 ∧ 8 * len ≤ len2))
theorem grow_LR {R : qR} {n : Nat} (hL : LR R) : LR (qpr (qzR R 9 n) 8 8 (some R.2.2.1)) := by
  obtain ⟨h1, h2, h3, h4⟩ := id hL
  refine ⟨fun a j ha hj n1 n2 => ?_, fun a ha => ?_, ?_, ?_⟩
  · show (if a = 8 then va_up ((qzR R 9 n).1 8) 8 (some R.2.2.1) else (qzR R 9 n).1 a) j = lP a j
    by_cases e : a = 8
    · subst e
      rw [if_pos rfl]
      unfold va_up
      rw [if_neg (by omega)]
      show (if 8 = R.2.2.1 then (fun _ => none) else R.1 8) j = _
      rw [if_neg (by omega)]
      exact h1 8 j ha hj n1 n2
    · rw [if_neg e]
      show (if a = R.2.2.1 then (fun _ => none) else R.1 a) j = _
      rw [if_neg (by omega)]
      exact h1 a j ha hj n1 n2
  · show (if a = R.2.2.1 then (9, n) else R.2.1 a) = _
    rw [if_neg (by omega)]
    exact h2 a ha
  · show 138 ≤ R.2.2.1 + 1
    omega
  · refine (h4.z rfl).pr (kd := 2) ?_ ?_ rfl
    · refine ⟨by show 8 < R.2.2.1 + 1; omega, ?_⟩
      show (if 8 = R.2.2.1 then (9, n) else R.2.1 8).1 = 2
      rw [if_neg (by omega), h2 8 (by omega)]
      rfl
    · exact qok.z rfl
theorem pow8_lt {a b : Nat} (h : 8 ^ a < 8 ^ b) : 8 * 8 ^ a ≤ 8 ^ b := by
  have : a < b := (Nat.pow_lt_pow_iff_right (by omega)).mp h
  rw [← Nat.pow_succ']
  exact Nat.pow_le_pow_right (by omega) this
theorem openKnown_ok {N c kn len S : Nat} {R : qR} {I : qI} (hL : LR R) (hc : c ≤ 6) (hK : KR R kn len) (hp8 : ∃ k, len = 8 ^ k) (hO : KO kn len S I) : ok (fX2_openKnown N R I 8 (nI (8 ^ c))) (fun y => ∃ kn2 len2, RG R y.2 kn len kn2 len2 ∧ 8 ^ c ≤ len2 ∧ (∃ k, len2 = 8 ^ k) ∧ y.1 8 4 = nI (S + 1) ∧ (∀ x, x < len2 → ∃ v, y.1 kn2 x = nI v ∧ v < 64 * (S + 1)) ∧ (∀ a, a < 138 → a ≠ 8 → y.1 a = I a) ∧ ∀ j, j ≠ 4 → y.1 8 j = I 8 j) := by
  obtain ⟨k1, k2, k3, k4, k5⟩ := id hK
  obtain ⟨o1, o2, o3⟩ := hO
  have b8 := p8c hc
  have h3 := hL.2.2.1
  unfold fX2_openKnown
  refine ok_bindv k1 ?_
  rw [k2, ofn]
  by_cases hle : 8 ^ c ≤ len
  · rw [if_pos (show nI (8 ^ c) ≤ nI len by rw [n_le (by omega) (by omega)]; exact hle), if_pos (show I 8 4 < 16777216 by rw [o1, l16777216, n_lt (by omega) (by omega)]; omega)]
    refine ok_let (ok_some ⟨kn, len, ⟨hL, hK, rfl, Or.inl ⟨rfl, rfl, rfl⟩⟩, hle, hp8, ?_, fun x hx => ?_, fun a h1 h2 => qup_ne _ _ _ h2, fun j hj => (qup_off (I := I) (a := 8) (b := 8) (Or.inr hj) : qup I 8 4 (I 8 4 + 1) 8 j = I 8 j)⟩)
    · show qup I 8 4 (I 8 4 + 1) 8 4 = _
      rw [qup_on, o1, nI_1]
    · obtain ⟨v, v1, v2⟩ := o3 x hx
      exact ⟨v, by show qup I 8 4 (I 8 4 + 1) kn x = _; rw [qup_off (by omega)]; exact v1, v2⟩
  · rw [if_neg (show ¬ nI (8 ^ c) ≤ nI len by rw [n_le (by omega) (by omega)]; exact hle)]
    refine ok_bindv (qnn_n (by omega)) (ok_let (ok_let (ok_let ?_)))
    have z8 : ∀ j, qzI I R.2.2.1 8 j = I 8 j := fun j => by unfold qzI; rw [if_neg (by omega)]
    rw [if_pos (show qzI I R.2.2.1 8 4 < 16777216 by rw [z8, o1, l16777216, n_lt (by omega) (by omega)]; omega)]
    have hlen : 8 * len ≤ 8 ^ c := by
      obtain ⟨k, hk⟩ := hp8
      rw [hk] at hle ⊢
      exact pow8_lt (by omega)
    refine ok_let (ok_some ⟨R.2.2.1, 8 ^ c, ⟨grow_LR hL, ⟨?_, ?_, by omega, ?_, by omega⟩, ?_, Or.inr ⟨rfl, rfl, hlen⟩⟩, Nat.le_refl _, ⟨c, rfl⟩, ?_, fun x hx => ?_, fun a h1 h2 => ?_, fun j hj => ?_⟩)
    · show (if 8 = 8 then va_up ((qzR R 9 (8 ^ c)).1 8) 8 (some R.2.2.1) else (qzR R 9 (8 ^ c)).1 8) 8 = some R.2.2.1
      rw [if_pos rfl]
      unfold va_up
      rw [if_pos rfl]
    · show (if R.2.2.1 = R.2.2.1 then (9, 8 ^ c) else R.2.1 R.2.2.1).2 = 8 ^ c
      rw [if_pos rfl]
    · show R.2.2.1 < R.2.2.1 + 1
      omega
    · show (if 51 = 8 then va_up ((qzR R 9 (8 ^ c)).1 8) 8 (some R.2.2.1) else (qzR R 9 (8 ^ c)).1 51) 0 = R.1 51 0
      rw [if_neg (by omega)]
      show (if 51 = R.2.2.1 then (fun _ => none) else R.1 51) 0 = _
      rw [if_neg (by omega)]
    · show qup (qzI I R.2.2.1) 8 4 (qzI I R.2.2.1 8 4 + 1) 8 4 = _
      rw [qup_on, z8, o1, nI_1]
    · refine ⟨0, ?_, by omega⟩
      show qup (qzI I R.2.2.1) 8 4 (qzI I R.2.2.1 8 4 + 1) R.2.2.1 x = _
      rw [qup_off (by omega)]
      unfold qzI
      rw [if_pos rfl]
      exact l0
    · show qup (qzI I R.2.2.1) 8 4 (qzI I R.2.2.1 8 4 + 1) a = _
      rw [qup_ne _ _ _ h2]
      unfold qzI
      rw [if_neg (by omega)]
    · show qup (qzI I R.2.2.1) 8 4 (qzI I R.2.2.1 8 4 + 1) 8 j = _
      rw [qup_off (by omega), z8]
theorem prepare_ok {N c kn len S : Nat} {ns : Nat → Nat} {st : Nat → Nat → Nat} {R : qR} {I : qI} (hN : 300000 ≤ N) (hL : LR R) (w : wf c ns st) (h0 : 0 < c) (hC : CM c ns st I) (hK : KR R kn len) (hp8 : ∃ k, len = 8 ^ k) (hO : KO kn len S I) : ok (fX2_prepare N R I 8 5 (nI c)) (fun y => ∃ kn2 len2, RG R y.2 kn len kn2 len2 ∧ 8 ^ c ≤ len2 ∧ (∃ k, len2 = 8 ^ k) ∧ PT c ns st y.1 ∧ KI c ns st kn2 len2 (S + 1) y.1 ∧ (∀ a, a < 138 → a ≠ 8 → a ≠ 10 → a ≠ 11 → a ≠ 12 → y.1 a = I a)) := by
  have hc6 := w.1
  have hkn := hK.2.2.1
  unfold fX2_prepare
  refine ok_let (ok_let ?_)
  rw [l0]
  refine ok_bind (ok_mono (P := fun J => J 8 2 = nI c ∧ J 8 3 = nI (enc ns c) ∧ (∀ m, m < c → PT1 ns st m J) ∧ (∀ a, a ≠ 8 → a ≠ 10 → a ≠ 11 → J a = I a) ∧ ∀ j, j ≠ 2 → j ≠ 3 → J 8 j = I 8 j) ?_ (fun J1 hJ1 => ?_))
  · refine ok_for (fun m q => ∃ J, q = (nI m, J) ∧ J 8 2 = nI c ∧ J 8 3 = nI (enc ns m) ∧ (∀ m2, m2 < m → PT1 ns st m2 J) ∧ (∀ a, a ≠ 8 → a ≠ 10 → a ≠ 11 → J a = I a) ∧ ∀ j, j ≠ 2 → j ≠ 3 → J 8 j = I 8 j) c (by omega) ⟨_, rfl, by rw [qup_off (by omega)]; exact qup_on, qup_on, fun m2 h => by omega, fun a h1 h2 h3 => by rw [qup_ne _ _ _ h1, qup_ne _ _ _ h1], fun j h1 h2 => by rw [qup_off (by omega), qup_off (by omega)]⟩ (fun m q hm hq => ?_) (fun q hq => ?_)
    · obtain ⟨J, rfl, g1, g2, g3, g4, g5⟩ := hq
      have hCJ : CM c ns st J := hC.congr hc6 (fun a h1 h2 => g4 a (by omega) (by omega) (by omega))
      have h7 := w.2.1 m hm
      show ok (cX2_prepare_12 N R 8 5 (nI c) (nI m) J) _
      unfold cX2_prepare_12
      rw [if_neg (show ¬ nI c ≤ nI m by rw [n_le (by omega) (by omega)]; omega)]
      refine ok_bindv (a5 hL (by omega)) (ok_bind (ok_mono (readStops_ok (N := N) hN hL w hCJ hm) (fun K hK => ?_)))
      obtain ⟨r1, r2, r3⟩ := hK
      have e1 : K (21 + 5 * m) 1 = nI (ns m) := by rw [r2 _ (by omega) (by omega)]; exact (hCJ m hm).1
      have e2 : K 8 3 = nI (enc ns m) := by rw [r2 _ (by omega) (by omega)]; exact g2
      have el := enc_lt (f := ns) m (fun j hj => by have := w.2.1 j (by omega); omega)
      refine ok_let ?_
      have ev : K 8 3 ||| K (21 + 5 * m) 1 <<< ((3 : Int32) * nI m &&& 31) = nI (enc ns (m + 1)) := by
        rw [e1, e2, l3, l31, pk_mul, n_sh8 (by omega) (by omega), fa_or, or_add8 el, enc]
      rw [ev, nI_1]
      refine ok_some ⟨_, rfl, by rw [qup_off (by omega), r2 _ (by omega) (by omega)]; exact g1, qup_on, fun m2 hm2 => ?_, fun a h1 h2 h3 => by rw [qup_ne _ _ _ h1, r2 a h2 h3]; exact g4 a h1 h2 h3, fun j h1 h2 => by rw [qup_off (by omega), r2 8 (by omega) (by omega)]; exact g5 j h1 h2⟩
      have hb7 := w.2.1 m2 (by omega)
      by_cases e : m2 = m
      · subst e
        exact ⟨fun i hi => by rw [qup_off (by omega)]; exact r1.1 i hi, by rw [qup_off (by omega)]; exact r1.2.1, fun i hi => by rw [qup_off (by omega)]; exact r1.2.2 i hi⟩
      · obtain ⟨s1, s2, s3⟩ := g3 m2 (by omega)
        exact ⟨fun i hi => by rw [qup_off (by omega), (r3 _ (by omega)).1]; exact s1 i hi, by rw [qup_off (by omega), (r3 _ (by omega)).1]; exact s2, fun i hi => by rw [qup_off (by omega), (r3 _ (by omega)).2]; exact s3 i hi⟩
    · obtain ⟨J, rfl, g⟩ := hq
      refine ⟨.inr J, ?_, g⟩
      show cX2_prepare_12 N R 8 5 (nI c) (nI c) J = _
      unfold cX2_prepare_12
      simp (disch := first | assumption | omega) only [obs, qle, ↓lm1, l0, qn_add, pk_mul, n_le, n_lt, n_eq, n_sM, n_Ms, n_Mlt, n_Mle, n_ltM, n_leM, ↓reduceIte, eq_self, if_pos, if_neg, qx, p0_0, p0_1, p0_2, p0_3, p2_0, p4_0, p4_1, p4_2, p4_3, p4_4, p4_5, p8_1, p8_5, p8_6, p8_7, p14_0, p14_4, p14_5, p18_1, p18_2, p51_4, p51_5, p51_8, p51_9, p51_10, p51_11, p51_12, p51_14, r3, w3, r6, w6, r7, w7, r9, w9, r10, w10, r11, w11, r12, w12, r15, w15, r16, w16, r17, w17, r19, w19, r20, w20, r53, w53, r54, w54, r55, w55, r56, w56, r57, w57, r58, w58, r59, w59, r60, w60, a1, a5, pt2, rt2, wt2, pt3, rt3, wt3, pt4, rt4, wt4, pt5, rt5, wt5, pm2, rm2, wm2, pm3, rm3, wm3, pm4, rm4, wm4, pm5, rm5, wm5, l1, l2, l3, l5, l6, l7, l8, l10, l11, l12, l31, l36, l63, l100, l1000, l1440, l1000000, l16777216]
  obtain ⟨j1, j2, j3, j4, j5⟩ := hJ1
  rw [l1]
  refine ok_bind (ok_mono (P := fun J => (∀ a b i j, a < c → b < a → i ≤ ns a → j ≤ ns b → J 12 ((tri a + b) * 8 * 8 + i * 8 + j) = nI (sS ns st a b i j)) ∧ ∀ a, a ≠ 12 → J a = J1 a) ?_ (fun J2 hJ2 => ?_))
  · refine ok_for (fun k q => ∃ J, q = (nI (tri (k + 1)), nI (k + 1), J) ∧ (∀ a b i j, a < k + 1 → b < a → i ≤ ns a → j ≤ ns b → J 12 ((tri a + b) * 8 * 8 + i * 8 + j) = nI (sS ns st a b i j)) ∧ ∀ a, a ≠ 12 → J a = J1 a) (c - 1) (by omega) ⟨J1, by rw [tri, tri], fun a b i j h1 h2 => by omega, fun _ _ => rfl⟩ (fun k q hk hq => ?_) (fun q hq => ?_)
    · obtain ⟨J, rfl, g1, g2⟩ := hq
      show ok (cX2_prepare_55 N R 8 5 (nI c) (nI (tri (k + 1))) (nI (k + 1)) J) _
      unfold cX2_prepare_55
      rw [if_neg (show ¬ nI c ≤ nI (k + 1) by rw [n_le (by omega) (by omega)]; omega), l0]
      refine ok_bind (ok_mono (P := fun q => q.1 = nI (tri (k + 1 + 1)) ∧ (∀ a b i j, a < k + 1 + 1 → b < a → i ≤ ns a → j ≤ ns b → q.2 12 ((tri a + b) * 8 * 8 + i * 8 + j) = nI (sS ns st a b i j)) ∧ ∀ a, a ≠ 12 → q.2 a = J1 a) ?_ (fun q hq => ?_))
      · refine ok_for (fun b q => ∃ K, q = (nI (tri (k + 1) + b), nI b, K) ∧ (∀ a b2 i j, a < k + 1 → b2 < a → i ≤ ns a → j ≤ ns b2 → K 12 ((tri a + b2) * 8 * 8 + i * 8 + j) = nI (sS ns st a b2 i j)) ∧ (∀ b2 i j, b2 < b → i ≤ ns (k + 1) → j ≤ ns b2 → K 12 ((tri (k + 1) + b2) * 8 * 8 + i * 8 + j) = nI (sS ns st (k + 1) b2 i j)) ∧ ∀ a, a ≠ 12 → K a = J1 a) (k + 1) (by omega) ⟨J, rfl, g1, fun b2 i j h => by omega, g2⟩ (fun b q hb hq => ?_) (fun q hq => ?_)
        · obtain ⟨K, rfl, f1, f2, f3⟩ := hq
          have hCK : CM c ns st K := hC.congr hc6 (fun a h1 h2 => by rw [f3 a (by omega), j4 a (by omega) (by omega) (by omega)])
          show ok (cX2_prepare_64 N R 8 5 (nI c) (nI (k + 1)) (nI (tri (k + 1) + b)) (nI b) K) _
          unfold cX2_prepare_64
          rw [if_neg (show ¬ nI (k + 1) ≤ nI b by rw [n_le (by omega) (by omega)]; omega)]
          have t15 := tri_15 (k + 1) (by omega) b hb
          refine ok_bindv (a5 hL (by omega)) (ok_bindv (a5 hL (by omega)) (ok_bind (ok_mono (fillPair_ok (N := N) (a := k + 1) (b := b) hN hL w hCK (by omega) (by omega) t15) (fun M hM => ?_))))
          obtain ⟨m1, m2, m3⟩ := hM
          rw [nI_1, nI_1, Nat.add_assoc]
          have d7 : ∀ x, x < c → ns x ≤ 7 := w.2.1
          refine ok_some ⟨M, rfl, fun a b2 i j h1 h2 h3 h4 => ?_, fun b2 i j h1 h2 h3 => ?_, fun a ha => (m2 a ha).trans (f3 a ha)⟩
          · have := d7 a (by omega)
            have := d7 b2 (by omega)
            have tm : ∀ x, x < 6 → ∀ y, y < x → ∀ z, z < y → tri y + z < tri x := by decide
            have := tm (k + 1) (by omega) a (by omega) b2 (by omega)
            rw [m3 _ (by omega)]; exact f1 a b2 i j h1 h2 h3 h4
          · have := d7 (k + 1) (by omega)
            have := d7 b2 (by omega)
            by_cases e : b2 = b
            · subst e; exact m1 i j h2 h3
            · rw [m3 _ (by omega)]; exact f2 b2 i j (by omega) h2 h3
        · obtain ⟨K, rfl, f1, f2, f3⟩ := hq
          refine ⟨.inr (nI (tri (k + 1) + (k + 1)), K), ?_, (congrArg nI (show tri (k + 1) + (k + 1) = tri (k + 1 + 1) from rfl) : nI (tri (k + 1) + (k + 1)) = nI (tri (k + 1 + 1))), fun a b i j h1 h2 h3 h4 => ?_, f3⟩
          · show cX2_prepare_64 N R 8 5 (nI c) (nI (k + 1)) (nI (tri (k + 1) + (k + 1))) (nI (k + 1)) K = _
            unfold cX2_prepare_64
            simp (disch := first | assumption | omega) only [obs, qle, ↓lm1, l0, qn_add, pk_mul, n_le, n_lt, n_eq, n_sM, n_Ms, n_Mlt, n_Mle, n_ltM, n_leM, ↓reduceIte, eq_self, if_pos, if_neg, qx, p0_0, p0_1, p0_2, p0_3, p2_0, p4_0, p4_1, p4_2, p4_3, p4_4, p4_5, p8_1, p8_5, p8_6, p8_7, p14_0, p14_4, p14_5, p18_1, p18_2, p51_4, p51_5, p51_8, p51_9, p51_10, p51_11, p51_12, p51_14, r3, w3, r6, w6, r7, w7, r9, w9, r10, w10, r11, w11, r12, w12, r15, w15, r16, w16, r17, w17, r19, w19, r20, w20, r53, w53, r54, w54, r55, w55, r56, w56, r57, w57, r58, w58, r59, w59, r60, w60, a1, a5, pt2, rt2, wt2, pt3, rt3, wt3, pt4, rt4, wt4, pt5, rt5, wt5, pm2, rm2, wm2, pm3, rm3, wm3, pm4, rm4, wm4, pm5, rm5, wm5, l1, l2, l3, l5, l6, l7, l8, l10, l11, l12, l31, l36, l63, l100, l1000, l1440, l1000000, l16777216]
          · by_cases e : a = k + 1
            · subst e; exact f2 b i j h2 h3 h4
            · exact f1 a b i j (by omega) h2 h3 h4
      · obtain ⟨q1, K⟩ := q
        obtain ⟨h1, h2, h3⟩ := hq
        simp only at h1 h2 h3
        subst h1
        rw [nI_1]
        exact ok_some ⟨K, rfl, h2, h3⟩
    · obtain ⟨J, rfl, g1, g2⟩ := hq
      rw [show c - 1 + 1 = c by omega] at g1 ⊢
      refine ⟨.inr J, ?_, g1, g2⟩
      show cX2_prepare_55 N R 8 5 (nI c) (nI (tri c)) (nI c) J = _
      unfold cX2_prepare_55
      simp (disch := first | assumption | omega) only [obs, qle, ↓lm1, l0, qn_add, pk_mul, n_le, n_lt, n_eq, n_sM, n_Ms, n_Mlt, n_Mle, n_ltM, n_leM, ↓reduceIte, eq_self, if_pos, if_neg, qx, p0_0, p0_1, p0_2, p0_3, p2_0, p4_0, p4_1, p4_2, p4_3, p4_4, p4_5, p8_1, p8_5, p8_6, p8_7, p14_0, p14_4, p14_5, p18_1, p18_2, p51_4, p51_5, p51_8, p51_9, p51_10, p51_11, p51_12, p51_14, r3, w3, r6, w6, r7, w7, r9, w9, r10, w10, r11, w11, r12, w12, r15, w15, r16, w16, r17, w17, r19, w19, r20, w20, r53, w53, r54, w54, r55, w55, r56, w56, r57, w57, r58, w58, r59, w59, r60, w60, a1, a5, pt2, rt2, wt2, pt3, rt3, wt3, pt4, rt4, wt4, pt5, rt5, wt5, pm2, rm2, wm2, pm3, rm3, wm3, pm4, rm4, wm4, pm5, rm5, wm5, l1, l2, l3, l5, l6, l7, l8, l10, l11, l12, l31, l36, l63, l100, l1000, l1440, l1000000, l16777216]
  obtain ⟨p1, p2⟩ := hJ2
  have hO2 : KO kn len S J2 := by
    obtain ⟨o1, o2, o3⟩ := hO
    refine ⟨by rw [p2 8 (by omega), j5 4 (by omega) (by omega)]; exact o1, o2, fun x hx => ?_⟩
    rw [p2 kn (by omega), j4 kn (by omega) (by omega) (by omega)]
    exact o3 x hx
  rw [l3, l31, pk_mul, n_18 (by omega)]
  refine ok_bind (ok_mono (openKnown_ok (N := N) (c := c) hL hc6 hK hp8 hO2) (fun y hy => ?_))
  obtain ⟨kn2, len2, y1, y2, y3, y4, y5, y6, y7⟩ := hy
  have hS := hO2.2.1
  refine ok_some ⟨kn2, len2, y1, y2, y3, ⟨?_, ?_, fun m hm => ?_, fun a b i j h1 h2 h3 h4 => ?_⟩, ⟨y4, by omega, fun x hx => ?_⟩, fun a h1 h2 h3 h4 h5 => ?_⟩
  · show y.1 8 2 = _
    rw [y7 2 (by omega), p2 8 (by omega)]; exact j1
  · show y.1 8 3 = _
    rw [y7 3 (by omega), p2 8 (by omega)]; exact j2
  · show (∀ i, i < ns m → y.1 10 (m * 8 + i) = nI (st m i)) ∧ y.1 10 (m * 8 + ns m) = nM ∧ ∀ i, i ≤ ns m → y.1 11 (m * 8 + i) = nI (ah ns st m i)
    rw [y6 10 (by omega) (by omega), p2 10 (by omega), y6 11 (by omega) (by omega), p2 11 (by omega)]
    exact j3 m hm
  · show y.1 12 _ = _
    rw [y6 12 (by omega) (by omega)]; exact p1 a b i j h1 h2 h3 h4
  · obtain ⟨v, v1, v2⟩ := y5 x hx
    refine ⟨v, v1, by omega, fun _ hv => ?_⟩
    omega
  · show y.1 a = _
    rw [y6 a h1 h2, p2 a h5, j4 a h2 h3 h4]
theorem rem_0 {c : Nat} {ns : Nat → Nat} : rem c ns 0 ≤ sm ns c := sm_le c (fun k hk => by show ns k - dg 0 k ≤ ns k; omega)
theorem search_ok {N c d kn len S : Nat} {ns : Nat → Nat} {st : Nat → Nat → Nat} {R : qR} {I : qI} (hN : 300000 ≤ N) (hL : LR R) (w : wf c ns st) (h0 : 0 < c) (hC : CM c ns st I) (hK : KR R kn len) (hp8 : ∃ k, len = 8 ^ k) (hO : KO kn len S I) (hV : PV I) (hd : isD c ns st 0 d) : ok (fX2_search N R I 8 5 (nI c)) (fun y => ∃ kn2 len2, RG R y.2 kn len kn2 len2 ∧ (∃ k, len2 = 8 ^ k) ∧ y.1 8 4 = nI (S + 1) ∧ (∀ x, x < len2 → ∃ v, y.1 kn2 x = nI v ∧ v < 64 * (S + 1 + 1)) ∧ PV y.1 ∧ y.1 8 0 = nI d ∧ pw c ns st (pth y.1) 0 d 0 ∧ ∀ a, a < 138 → (a < 8 ∨ 13 < a) → y.1 a = I a) := by
  have hc6 := w.1
  have h42 := isD_42 c ns st w (pl_0 c ns) hd
  have hdm : d ≤ sm ns c := Nat.le_trans (hd.2 _ (rch_rem c ns st w _ 0 (pl_0 c ns) (Nat.le_refl _))) rem_0
  have hsm : sm ns c ≤ 42 := by have := sm_bound (f := ns) (b := 7) c w.2.1; omega
  unfold fX2_search
  refine ok_bind (ok_mono (prepare_ok (N := N) hN hL w h0 hC hK hp8 hO) (fun y hy => ?_))
  obtain ⟨J, R2⟩ := y
  obtain ⟨kn2, len2, hG, g1, g2, g3, g4, g5⟩ := hy
  simp only at hG g3 g4 g5 ⊢
  obtain ⟨hL2, hK2, r1, r2⟩ := id hG
  have hkn := hK2.2.2.1
  have hCJ : CM c ns st J := hC.congr hc6 (fun a h1 h2 => g5 a (by omega) (by omega) (by omega) (by omega) (by omega))
  have e11 : qloop (fun s => cX2_search_11 N R2 J 8 5 (nI c) s.1 s.2) N ((0 : Int32), (0 : Int32)) = some (nI (sm ns c)) := by
    refine qfor (fun k => (nI (sm ns k), nI k)) (nI (sm ns c)) c (by omega) (fun k hk => ?_) ?_
    · have e := (hCJ k hk).1
      simp (disch := first | assumption | omega) only [obs, qle, ↓lm1, l0, qn_add, pk_mul, n_le, n_lt, n_eq, n_sM, n_Ms, n_Mlt, n_Mle, n_ltM, n_leM, ↓reduceIte, eq_self, if_pos, if_neg, qx, p0_0, p0_1, p0_2, p0_3, p2_0, p4_0, p4_1, p4_2, p4_3, p4_4, p4_5, p8_1, p8_5, p8_6, p8_7, p14_0, p14_4, p14_5, p18_1, p18_2, p51_4, p51_5, p51_8, p51_9, p51_10, p51_11, p51_12, p51_14, r3, w3, r6, w6, r7, w7, r9, w9, r10, w10, r11, w11, r12, w12, r15, w15, r16, w16, r17, w17, r19, w19, r20, w20, r53, w53, r54, w54, r55, w55, r56, w56, r57, w57, r58, w58, r59, w59, r60, w60, a1, a5, pt2, rt2, wt2, pt3, rt3, wt3, pt4, rt4, wt4, pt5, rt5, wt5, pm2, rm2, wm2, pm3, rm3, wm3, pm4, rm4, wm4, pm5, rm5, wm5, l1, l2, l3, l5, l6, l7, l8, l10, l11, l12, l31, l36, l63, l100, l1000, l1440, l1000000, l16777216, cX2_search_11, e, sm]
    · simp (disch := first | assumption | omega) only [obs, qle, ↓lm1, l0, qn_add, pk_mul, n_le, n_lt, n_eq, n_sM, n_Ms, n_Mlt, n_Mle, n_ltM, n_leM, ↓reduceIte, eq_self, if_pos, if_neg, qx, p0_0, p0_1, p0_2, p0_3, p2_0, p4_0, p4_1, p4_2, p4_3, p4_4, p4_5, p8_1, p8_5, p8_6, p8_7, p14_0, p14_4, p14_5, p18_1, p18_2, p51_4, p51_5, p51_8, p51_9, p51_10, p51_11, p51_12, p51_14, r3, w3, r6, w6, r7, w7, r9, w9, r10, w10, r11, w11, r12, w12, r15, w15, r16, w16, r17, w17, r19, w19, r20, w20, r53, w53, r54, w54, r55, w55, r56, w56, r57, w57, r58, w58, r59, w59, r60, w60, a1, a5, pt2, rt2, wt2, pt3, rt3, wt3, pt4, rt4, wt4, pt5, rt5, wt5, pm2, rm2, wm2, pm3, rm3, wm3, pm4, rm4, wm4, pm5, rm5, wm5, l1, l2, l3, l5, l6, l7, l8, l10, l11, l12, l31, l36, l63, l100, l1000, l1440, l1000000, l16777216, cX2_search_11]
  refine ok_bindv e11 (ok_bind (ok_mono (needOf_ok (N := N) hN hL2 g3 w h0 (pl_0 c ns) hK2 g1 g4) (fun y hy => ?_)))
  obtain ⟨need, n1, n2, n3, n4, n5⟩ := hy
  obtain ⟨y1, J0⟩ := y
  simp only at n1 n4 n5 ⊢
  subst n1
  have hnd := n3 d hd.1
  have hVJ : PV J0 := fun i hi => by rw [n5 9 (by omega), g5 9 (by omega) (by omega) (by omega) (by omega) (by omega)]; exact hV i hi
  refine ok_bind (ok_mono (P := fun K => KI c ns st kn2 len2 (S + 1) K ∧ PV K ∧ K 8 0 = nI d ∧ pw c ns st (pth K) 0 d 0 ∧ ∀ a, a ≠ kn2 → a ≠ 8 → a ≠ 9 → K a = J0 a) ?_ (fun K hK => ?_))
  · refine ok_for (fun k q => ∃ K, KI c ns st kn2 len2 (S + 1) K ∧ PV K ∧ (∀ a, a ≠ kn2 → a ≠ 8 → a ≠ 9 → K a = J0 a) ∧ (∀ j, j ≠ 0 → K 8 j = J0 8 j) ∧ ((k ≤ d - need ∧ q = (nI 0, nI (need + k), K)) ∨ (k = d - need + 1 ∧ q = (nI 1, nI (d + 1), K) ∧ K 8 0 = nI d ∧ pw c ns st (pth K) 0 d 0))) (d - need + 1) (by omega) ⟨J0, n4, hVJ, fun _ _ _ _ => rfl, fun _ _ => rfl, Or.inl ⟨by omega, rfl⟩⟩ (fun k q hk hq => ?_) (fun q hq => ?_)
    · obtain ⟨K, q1, q2, q3, q4, q5⟩ := hq
      rcases q5 with ⟨q5, rfl⟩ | ⟨q5, _⟩
      · show ok (cX2_search_43 N R2 8 (nI (sm ns c)) (nI 0) (nI (need + k)) K) _
        unfold cX2_search_43
        rw [if_neg (show ¬ nI (sm ns c) < nI (need + k) by rw [n_lt (by omega) (by omega)]; omega), if_pos (show nI 0 = 0 by decide)]
        refine ok_let ?_
        have hT8 : PT c ns st (qup K 8 0 (nI (need + k))) := by
          refine g3.congr ?_ ?_ ?_ ?_ ?_
          · rw [qup_off (by omega), q4 2 (by omega), n5 8 (by omega)]
          · rw [qup_off (by omega), q4 3 (by omega), n5 8 (by omega)]
          · rw [qup_ne _ _ _ (by omega), q3 _ (by omega) (by omega) (by omega), n5 _ (by omega)]
          · rw [qup_ne _ _ _ (by omega), q3 _ (by omega) (by omega) (by omega), n5 _ (by omega)]
          · rw [qup_ne _ _ _ (by omega), q3 _ (by omega) (by omega) (by omega), n5 _ (by omega)]
        have hK8 : KI c ns st kn2 len2 (S + 1) (qup K 8 0 (nI (need + k))) := ⟨by rw [qup_off (by omega)]; exact q1.1, q1.2.1, fun x hx => by rw [qup_off (by omega)]; exact q1.2.2 x hx⟩
        have hV8 : PV (qup K 8 0 (nI (need + k))) := fun i hi => by rw [qup_off (by omega)]; exact q2 i hi
        refine ok_bind (ok_mono (reach_ok (L := need + k) hN hL2 w h0 hK2 g1 (by omega) (need + k) 50 (by omega) _ 0 (pl_0 c ns) hT8 hK8 hV8 qup_on (Nat.le_refl _)) (fun y hy => ?_))
        obtain ⟨y1, M⟩ := y
        obtain ⟨⟨m1, m2, m3, m4⟩, hy⟩ := hy
        simp only at m1 m2 m3 m4 hy ⊢
        rw [nI_1]
        have hfr : ∀ a, a ≠ kn2 → a ≠ 8 → a ≠ 9 → M a = J0 a := fun a h1 h2 h3 => by rw [m3 a h1 h3, qup_ne _ _ _ h2]; exact q3 a h1 h2 h3
        have hf8 : ∀ j, j ≠ 0 → M 8 j = J0 8 j := fun j hj => by rw [m3 8 (by omega) (by omega), qup_off (by omega)]; exact q4 j hj
        have hM0 : M 8 0 = nI (need + k) := by rw [m3 8 (by omega) (by omega)]; exact qup_on
        rw [rch_iff c ns st hd] at hy
        rcases hy with ⟨t1, t2, t3⟩ | ⟨t1, t2⟩
        · have e : need + k = d := by omega
          subst t2
          refine ok_some ⟨M, m1, m2, hfr, hf8, Or.inr ⟨by omega, by rw [e], by rw [hM0, e], ?_⟩⟩
          rw [e, Nat.sub_self] at t3
          exact t3
        · subst t2
          exact ok_some ⟨M, m1, m2, hfr, hf8, Or.inl ⟨by omega, by rw [Nat.add_assoc]⟩⟩
      · omega
    · obtain ⟨K, q1, q2, q3, q4, q5⟩ := hq
      rcases q5 with ⟨q5, _⟩ | ⟨q5, rfl, q6, q7⟩
      · omega
      · refine ⟨.inr K, ?_, q1, q2, q6, q7, q3⟩
        show cX2_search_43 N R2 8 (nI (sm ns c)) (nI 1) (nI (d + 1)) K = _
        unfold cX2_search_43
        by_cases hlt : sm ns c < d + 1
        · simp (disch := first | assumption | omega) only [obs, qle, ↓lm1, l0, qn_add, pk_mul, n_le, n_lt, n_eq, n_sM, n_Ms, n_Mlt, n_Mle, n_ltM, n_leM, ↓reduceIte, eq_self, if_pos, if_neg, qx, p0_0, p0_1, p0_2, p0_3, p2_0, p4_0, p4_1, p4_2, p4_3, p4_4, p4_5, p8_1, p8_5, p8_6, p8_7, p14_0, p14_4, p14_5, p18_1, p18_2, p51_4, p51_5, p51_8, p51_9, p51_10, p51_11, p51_12, p51_14, r3, w3, r6, w6, r7, w7, r9, w9, r10, w10, r11, w11, r12, w12, r15, w15, r16, w16, r17, w17, r19, w19, r20, w20, r53, w53, r54, w54, r55, w55, r56, w56, r57, w57, r58, w58, r59, w59, r60, w60, a1, a5, pt2, rt2, wt2, pt3, rt3, wt3, pt4, rt4, wt4, pt5, rt5, wt5, pm2, rm2, wm2, pm3, rm3, wm3, pm4, rm4, wm4, pm5, rm5, wm5, l1, l2, l3, l5, l6, l7, l8, l10, l11, l12, l31, l36, l63, l100, l1000, l1440, l1000000, l16777216]
        · simp (disch := first | assumption | omega) only [obs, qle, ↓lm1, l0, qn_add, pk_mul, n_le, n_lt, n_eq, n_sM, n_Ms, n_Mlt, n_Mle, n_ltM, n_leM, ↓reduceIte, eq_self, if_pos, if_neg, qx, p0_0, p0_1, p0_2, p0_3, p2_0, p4_0, p4_1, p4_2, p4_3, p4_4, p4_5, p8_1, p8_5, p8_6, p8_7, p14_0, p14_4, p14_5, p18_1, p18_2, p51_4, p51_5, p51_8, p51_9, p51_10, p51_11, p51_12, p51_14, r3, w3, r6, w6, r7, w7, r9, w9, r10, w10, r11, w11, r12, w12, r15, w15, r16, w16, r17, w17, r19, w19, r20, w20, r53, w53, r54, w54, r55, w55, r56, w56, r57, w57, r58, w58, r59, w59, r60, w60, a1, a5, pt2, rt2, wt2, pt3, rt3, wt3, pt4, rt4, wt4, pt5, rt5, wt5, pm2, rm2, wm2, pm3, rm3, wm3, pm4, rm4, wm4, pm5, rm5, wm5, l1, l2, l3, l5, l6, l7, l8, l10, l11, l12, l31, l36, l63, l100, l1000, l1440, l1000000, l16777216]
  · obtain ⟨h1, h2, h3, h4, h5⟩ := hK
    refine ok_some ⟨kn2, len2, hG, g2, h1.1, fun x hx => ?_, h2, h3, h4, fun a ha1 ha2 => ?_⟩
    · obtain ⟨v, v1, v2, _⟩ := h1.2.2 x hx
      exact ⟨v, v1, v2⟩
    · show K a = _
      rw [h5 a (by omega) (by omega) (by omega), n5 a (by omega), g5 a ha1 (by omega) (by omega) (by omega) (by omega)]
