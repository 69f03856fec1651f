/-! THE CLASS'S BEST WAY -/
section BEST7
variable {n : Nat} {NS : Nat → Nat} {ST CT GT : Nat → Nat → Nat} {D : Nat → Nat} {W F day T v M N : Nat} {R : qR}
/-- the way by its trains and stops -/
def wy (NS : Nat → Nat) (ST CT GT : Nat → Nat → Nat) (W T v L : Nat) (tr B lv : Nat → Nat) : Prop := ∀ m, m < L → B m < NS (tr m) ∧ sel NS ST CT GT W T v tr B lv (L - 1 - m) m ∧ (m + 1 < L → cc ST CT GT W (tr m) (lv m) (tr (m + 1)) (B (m + 1)))
theorem chooseStations_ok {I : qI} {L : Nat} {tr b : Nat → Nat} (hN : 300000 ≤ N) (hL : LR R) (w : wb n NS ST CT GT (rD n day D) W F) (hF : FPx R I n NS ST CT GT D W day) (h7 : I 51 7 = nI L) (hL0 : 0 < L) (hL10 : L ≤ 10) (hT : T < 12) (hc : chs NS ST CT GT (rD n day D) W F T v M L tr b L) (h55 : ∀ m, m < L → I 55 m = nI (tr m) ∧ tr m < n) (h57 : I 57 0 = nI (b 0)) : ok (fX6_chooseStations N R I 51 (nI T)) (fun J => ∃ B lv, B 0 = b 0 ∧ wy NS ST CT GT W T v L tr B lv ∧ (∀ m, m < L → J 57 m = nI (B m) ∧ J 58 m = nI (lv m)) ∧ ∀ a, a ≠ 56 → a ≠ 57 → a ≠ 58 → J a = I a) := by
  have hn10 := w.1
  have hF12 := w.2.2.1
  obtain ⟨p0, p1, p2, p3, p4, p5, p6⟩ := id hF
  have hrg := chs_rgo NS ST CT GT (rD n day D) W F T v hc
  obtain ⟨jT, jb, jr⟩ := hrg 0 (L - 1) (by omega)
  obtain ⟨j1, j2, j3, j4⟩ := id jr
  have hl := h55 (L - 1) (by omega)
  have h0 := h55 0 hL0
  have tl10 : tr (L - 1) < 10 := by omega
  have t010 : tr 0 < 10 := by omega
  have eT : ∀ J : qI, (∀ a, 60 < a → J a = I a) → J (61 + 5 * tr (L - 1) + 4) T = nI jT := fun J hJ => by rw [hJ _ (by omega), ← j3]; exact ((p5 _ tl10).2.2.2.1 jT j2).2.2.2.2.2
  obtain ⟨c1, _⟩ := hc 0 hL0
  obtain ⟨_, _, c3, c4, c5⟩ := c1 rfl
  have hj7 : jT < 8 := by have := (p5 _ tl10).1; omega
  have hq0 : isq NS ST CT GT W T v tr 0 (L - 1) jT := Or.inr ⟨jr, fun j hj => by
    have : j = jT := (w.2.2.2.2 _ hl.2).2.2.2 j jT hj.2.1 j2 (by rw [hj.2.2.1, j3])
    omega⟩
  unfold fX6_chooseStations
  refine ok_bindv (p51_11 hL) (ok_bindv p0 (ok_bindv (p51_8 hL) ?_))
  rw [h7, l1, l0, qn_sub (by omega)]
  refine ok_bindv (r55 hL (by omega)) ?_
  rw [hl.1]
  refine ok_bindv (a1 hL tl10) (ok_bindv (pt5 hL tl10) (ok_bindv (rt5 hL tl10 hT) ?_))
  rw [eT I (fun _ _ => rfl)]
  refine ok_bindv (w58 hL (by omega)) (ok_bindv (p51_9 hL) (ok_bindv (r58 hL (by omega)) ?_))
  rw [qup_on, nP_sub, nP_sub]
  refine ok_bindv (w56 hL (by omega)) ?_
  generalize hQ : qup (qup I 58 (L - 1) (nI jT)) 56 (L - 1) (nP jT) = Q
  have rQ : ∀ a, a ≠ 56 → a ≠ 58 → Q a = I a := fun a h1 h2 => by rw [← hQ, qup_ne _ _ _ h1, qup_ne _ _ _ h2]
  have rQ56 : Q 56 (L - 1) = nP jT := by rw [← hQ]; exact qup_on
  have rQ58 : Q 58 (L - 1) = nI jT := by rw [← hQ, qup_off (by omega)]; exact qup_on
  refine ok_bind (ok_mono (P := fun J => (∀ m, 1 ≤ m → m < L → ∃ q, J 56 m = nP q ∧ isq NS ST CT GT W T v tr (L - 1 - m) m q ∧ q < 8) ∧ J 58 (L - 1) = nI jT ∧ ∀ a, a ≠ 56 → a ≠ 58 → J a = I a) ?_ (fun J1 hJ1 => ?_))
  · refine ok_for (fun x s => ∃ (p : Nat) (J : qI), p + x = L - 1 ∧ s = (nP p, J) ∧ (∀ m, p ≤ m → 1 ≤ m → m < L → ∃ q, J 56 m = nP q ∧ isq NS ST CT GT W T v tr (L - 1 - m) m q ∧ q < 8) ∧ J 58 (L - 1) = nI jT ∧ ∀ a, a ≠ 56 → a ≠ 58 → J a = I a) (L - 1) (by omega) ⟨L - 1, Q, by omega, rfl, fun m h1 h2 h3 => ?_, rQ58, rQ⟩ (fun x s hx hs => ?_) (fun s hs => ?_)
    · obtain rfl : m = L - 1 := by omega
      rw [Nat.sub_self]
      exact ⟨jT, rQ56, hq0, hj7⟩
    · obtain ⟨p, J, g0, rfl, g1, g2, g3⟩ := hs
      have hFJ : FPx R J n NS ST CT GT D W day := hF.congr hn10 (fun a ha => g3 a (by omega) (by omega)) (by rw [g3 51 (by omega) (by omega)]) (by rw [g3 51 (by omega) (by omega)]) (by rw [g3 51 (by omega) (by omega)])
      by_cases hp : p ≤ 1
      · refine ⟨.inr J, ?_, fun m h1 h2 => g1 m (by omega) h1 h2, g2, g3⟩
        show cX6_chooseStations_47 N R 51 (nI (L - 1)) (nP p) J = _
        unfold cX6_chooseStations_47
        rw [l0, if_pos ((nP_le0 (by omega)).mpr hp)]
      · obtain ⟨m, rfl⟩ : ∃ m, p = m + 1 := ⟨p - 1, by omega⟩
        obtain ⟨q, q1, q2, q3⟩ := g1 (m + 1) (Nat.le_refl _) (by omega) (by omega)
        have t1 := h55 m (by omega)
        have t2 := h55 (m + 1) (by omega)
        have t110 : tr m < 10 := by omega
        have t210 : tr (m + 1) < 10 := by omega
        have hns := (hc m (by omega)).2.2.2
        obtain ⟨q2', k1, k2, k3⟩ := limit_ok (N := N) (R := R) (d := L - 1 - (m + 1)) (m := m) hN hL w hFJ t1.2 t2.2 q2 q3 (by omega)
        rw [show L - 1 - (m + 1) + 1 = L - 1 - m by omega] at k2
        have e1 : J 55 m = nI (tr m) := by rw [g3 55 (by omega) (by omega)]; exact t1.1
        have e2 : J 55 (m + 1) = nI (tr (m + 1)) := by rw [g3 55 (by omega) (by omega)]; exact t2.1
        have p0' := hFJ.1
        refine ⟨.inl (nP m, qup J 56 m (nP q2')), ?_, m, _, by omega, rfl, fun x h1 h2 h3 => ?_, by rw [qup_off (by omega)]; exact g2, fun a h1 h2 => by rw [qup_ne _ _ _ h1]; exact g3 a h1 h2⟩
        · show cX6_chooseStations_47 N R 51 (nI (L - 1)) (nI m) J = _
          unfold cX6_chooseStations_47
          simp (disch := first | assumption | omega) only [obs, qle, ↓lm1, l0, qn_add, pk_mul, n_le, n_lt, n_eq, n_sM, n_Ms, n_Mlt, n_Mle, n_ltM, n_leM, ↓reduceIte, eq_self, if_pos, if_neg, qx, p0_0, p0_1, p0_2, p0_3, p2_0, p4_0, p4_1, p4_2, p4_3, p4_4, p4_5, p8_1, p8_5, p8_6, p8_7, p14_0, p14_4, p14_5, p18_1, p18_2, p51_4, p51_5, p51_8, p51_9, p51_10, p51_11, p51_12, p51_14, r3, w3, r6, w6, r7, w7, r9, w9, r10, w10, r11, w11, r12, w12, r15, w15, r16, w16, r17, w17, r19, w19, r20, w20, r53, w53, r54, w54, r55, w55, r56, w56, r57, w57, r58, w58, r59, w59, r60, w60, a1, a5, pt2, rt2, wt2, pt3, rt3, wt3, pt4, rt4, wt4, pt5, rt5, wt5, pm2, rm2, wm2, pm3, rm3, wm3, pm4, rm4, wm4, pm5, rm5, wm5, l1, l2, l3, l5, l6, l7, l8, l10, l11, l12, l31, l36, l63, l100, l1000, l1440, l1000000, l16777216, p0', e1, e2, q1, k1, nP_dec]
        · by_cases e : x = m
          · subst e; exact ⟨q2', qup_on, k2, k3⟩
          · rw [qup_off (by omega)]; exact g1 x (by omega) h2 h3
    · obtain ⟨p, J, g0, rfl, g1, g2, g3⟩ := hs
      obtain rfl : p = 0 := by omega
      refine ⟨.inr J, ?_, fun m h1 h2 => g1 m (by omega) h1 h2, g2, g3⟩
      show cX6_chooseStations_47 N R 51 (nI (L - 1)) (nP 0) J = _
      unfold cX6_chooseStations_47
      rw [l0, if_pos ((nP_le0 (by omega)).mpr (by omega))]
  obtain ⟨k1, k2, k3⟩ := hJ1
  refine ok_bind (ok_mono (P := fun J => ∃ B lv, B 0 = b 0 ∧ wy NS ST CT GT W T v L tr B lv ∧ (∀ m, m < L → J 57 m = nI (B m) ∧ J 58 m = nI (lv m)) ∧ ∀ a, a ≠ 56 → a ≠ 57 → a ≠ 58 → J a = I a) ?_ (fun r hr => ok_some hr))
  obtain ⟨jz, jz1, jz2⟩ := hrg (L - 1) 0 (by omega)
  refine ok_for (fun k s => ∃ (J : qI) (B lv : Nat → Nat), s = (nI k, J) ∧ B 0 = b 0 ∧ (∀ m, m ≤ k → B m < NS (tr m) ∧ J 57 m = nI (B m)) ∧ (∀ m, m < k → J 58 m = nI (lv m) ∧ sel NS ST CT GT W T v tr B lv (L - 1 - m) m ∧ cc ST CT GT W (tr m) (lv m) (tr (m + 1)) (B (m + 1))) ∧ (∃ j, B k < j ∧ rgo NS ST CT GT W T v tr (L - 1 - k) k j) ∧ J 58 (L - 1) = nI jT ∧ J 56 = J1 56 ∧ ∀ a, a ≠ 56 → a ≠ 57 → a ≠ 58 → J a = I a) (L - 1) (by omega) ⟨_, fun _ => b 0, fun _ => 0, rfl, rfl, fun m hm => ?_, fun m hm => by omega, ⟨jz, jz1, by rw [Nat.sub_zero]; exact jz2⟩, k2, rfl, fun a h1 h2 h3 => k3 a h1 h3⟩ (fun k s hk hs => ?_) (fun s hs => ?_)
  · obtain rfl : m = 0 := by omega
    exact ⟨c3, by rw [k3 57 (by omega) (by omega)]; exact h57⟩
  · obtain ⟨J, B, lv, rfl, g0, g1, g2, g3, g4, g5, g6⟩ := hs
    have hFJ : FPx R J n NS ST CT GT D W day := hF.congr hn10 (fun a ha => g6 a (by omega) (by omega) (by omega)) (by rw [g6 51 (by omega) (by omega) (by omega)]) (by rw [g6 51 (by omega) (by omega) (by omega)]) (by rw [g6 51 (by omega) (by omega) (by omega)])
    obtain ⟨q, q1, q2, q3⟩ := k1 (k + 1) (by omega) (by omega)
    have t1 := h55 k (by omega)
    have t2 := h55 (k + 1) (by omega)
    have t110 : tr k < 10 := by omega
    have t210 : tr (k + 1) < 10 := by omega
    have e1 : J 55 k = nI (tr k) := by rw [g6 55 (by omega) (by omega) (by omega)]; exact t1.1
    have e2 : J 55 (k + 1) = nI (tr (k + 1)) := by rw [g6 55 (by omega) (by omega) (by omega)]; exact t2.1
    have hd : L - 1 - (k + 1) + 1 = L - 1 - k := by omega
    rw [← hd] at g3
    obtain ⟨l, u1, ⟨u2, u3⟩, u4⟩ := leastCh_ok (N := N) (R := R) (m := k) hN hL w hFJ (by omega) t1.2 t2.2 q2 q3 e1 e2 (by rw [g5]; exact q1) (g1 k (Nat.le_refl _)).2 (g1 k (Nat.le_refl _)).1 g3
    obtain ⟨_, l2, i, j2', v1, v2, v3⟩ := id u3
    have hi : i < NS (tr (k + 1)) := by have := (rgo_ok NS ST CT GT W T v v3).2; omega
    have al := ((hFJ.2.2.2.2.2.1 _ t110).2.2.2.1 l l2).1
    have s12 := al.2.2
    have hl7 : l < 7 := by have := (p5 _ t110).1; omega
    have ei : J (61 + 5 * tr (k + 1) + 4) (ST (tr k) l) = nI i := by rw [v2.1]; exact ((hFJ.2.2.2.2.2.1 _ t210).2.2.2.1 i hi).2.2.2.2.2
    have p0' := hFJ.1
    refine ⟨.inl (nI (k + 1), qup (qup J 58 k (nI l)) 57 (k + 1) (nI i)), ?_, _, fun x => if x = k + 1 then i else B x, fun x => if x = k then l else lv x, rfl, ?_, fun m hm => ?_, fun m hm => ?_, ?_, ?_, ?_, fun a h1 h2 h3 => by rw [qup_ne _ _ _ h2, qup_ne _ _ _ h3]; exact g6 a h1 h2 h3⟩
    · have f1 : ∀ a j, a ≠ 58 → qup J 58 k (nI l) a j = J a j := fun a j ha => by rw [qup_ne _ _ _ ha]
      have f2 : qup J 58 k (nI l) 58 k = nI l := qup_on
      have f3 : qup J 58 k (nI l) 55 (k + 1) = nI (tr (k + 1)) := by rw [f1 _ _ (by omega)]; exact e2
      have f4 : qup J 58 k (nI l) 55 k = nI (tr k) := by rw [f1 _ _ (by omega)]; exact e1
      have f5 : qup J 58 k (nI l) (61 + 5 * tr k + 1) l = nI (ST (tr k) l) := by rw [f1 _ _ (by omega)]; exact al.2.1
      have f6 : qup J 58 k (nI l) (61 + 5 * tr (k + 1) + 4) (ST (tr k) l) = nI i := by rw [f1 _ _ (by omega)]; exact ei
      show cX6_chooseStations_101 N R 51 (nI (L - 1)) (nI k) J = _
      unfold cX6_chooseStations_101
      simp (disch := first | assumption | omega) only [obs, qle, ↓lm1, l0, qn_add, pk_mul, n_le, n_lt, n_eq, n_sM, n_Ms, n_Mlt, n_Mle, n_ltM, n_leM, ↓reduceIte, eq_self, if_pos, if_neg, qx, p0_0, p0_1, p0_2, p0_3, p2_0, p4_0, p4_1, p4_2, p4_3, p4_4, p4_5, p8_1, p8_5, p8_6, p8_7, p14_0, p14_4, p14_5, p18_1, p18_2, p51_4, p51_5, p51_8, p51_9, p51_10, p51_11, p51_12, p51_14, r3, w3, r6, w6, r7, w7, r9, w9, r10, w10, r11, w11, r12, w12, r15, w15, r16, w16, r17, w17, r19, w19, r20, w20, r53, w53, r54, w54, r55, w55, r56, w56, r57, w57, r58, w58, r59, w59, r60, w60, a1, a5, pt2, rt2, wt2, pt3, rt3, wt3, pt4, rt4, wt4, pt5, rt5, wt5, pm2, rm2, wm2, pm3, rm3, wm3, pm4, rm4, wm4, pm5, rm5, wm5, l1, l2, l3, l5, l6, l7, l8, l10, l11, l12, l31, l36, l63, l100, l1000, l1440, l1000000, l16777216, p0', u1, f2, f3, f4, f5, f6]
    · show (if 0 = k + 1 then i else B 0) = b 0
      rw [if_neg (by omega)]; exact g0
    · show (if m = k + 1 then i else B m) < NS (tr m) ∧ _ = nI (if m = k + 1 then i else B m)
      by_cases e : m = k + 1
      · subst e
        rw [if_pos rfl]
        exact ⟨hi, qup_on⟩
      · rw [if_neg e, qup_off (by omega), qup_off (by omega)]
        exact g1 m (by omega)
    · by_cases e : m = k
      · subst e
        refine ⟨?_, ⟨⟨?_, ?_⟩, fun j h1 h2 => ?_⟩, ?_⟩
        · show _ = nI (if m = m then l else lv m)
          rw [if_pos rfl, qup_off (by omega)]
          exact qup_on
        · show (if m = m + 1 then i else B m) < (if m = m then l else lv m)
          rw [if_neg (by omega), if_pos rfl]; exact u2
        · show rgo NS ST CT GT W T v tr (L - 1 - m) m (if m = m then l else lv m)
          rw [if_pos rfl, ← hd]; exact u3
        · show ST (tr m) (if m = m then l else lv m) ≤ ST (tr m) j
          have h1' : (if m = m + 1 then i else B m) < j := h1
          rw [if_neg (by omega)] at h1'
          rw [if_pos rfl]
          rw [← hd] at h2
          exact u4 j h1' h2
        · show cc ST CT GT W (tr m) (if m = m then l else lv m) (tr (m + 1)) (if m + 1 = m + 1 then i else B (m + 1))
          rw [if_pos rfl, if_pos rfl]; exact v2
      · obtain ⟨w1, ⟨w2, w3⟩, w4⟩ := g2 m (by omega)
        refine ⟨?_, ⟨?_, fun j h1 h2 => ?_⟩, ?_⟩
        · show _ = nI (if m = k then l else lv m)
          rw [if_neg e, qup_off (by omega), qup_off (by omega)]; exact w1
        · show (if m = k + 1 then i else B m) < (if m = k then l else lv m) ∧ rgo NS ST CT GT W T v tr (L - 1 - m) m (if m = k then l else lv m)
          rw [if_neg e, if_neg (by omega)]; exact w2
        · show ST (tr m) (if m = k then l else lv m) ≤ ST (tr m) j
          have h1' : (if m = k + 1 then i else B m) < j := h1
          rw [if_neg (by omega)] at h1'
          rw [if_neg e]
          exact w3 j h1' h2
        · show cc ST CT GT W (tr m) (if m = k then l else lv m) (tr (m + 1)) (if m + 1 = k + 1 then i else B (m + 1))
          rw [if_neg e, if_neg (by omega)]; exact w4
    · refine ⟨j2', ?_, v3⟩
      show (if k + 1 = k + 1 then i else B (k + 1)) < j2'
      rw [if_pos rfl]; exact v1
    · rw [qup_off (by omega), qup_off (by omega)]; exact g4
    · rw [qup_ne _ _ _ (by omega), qup_ne _ _ _ (by omega)]; exact g5
  · obtain ⟨J, B, lv, rfl, g0, g1, g2, g3, g4, g5, g6⟩ := hs
    have huq : ∀ j, rgo NS ST CT GT W T v tr 0 (L - 1) j → j = jT := fun j hj => (w.2.2.2.2 _ hl.2).2.2.2 j jT hj.2.1 j2 (by rw [hj.2.2.1, j3])
    rw [Nat.sub_self] at g3
    obtain ⟨jj, y1, y2⟩ := g3
    have := huq jj y2
    subst this
    refine ⟨.inr J, ?_, B, fun x => if x = L - 1 then jj else lv x, g0, fun m hm => ?_, fun m hm => ?_, g6⟩
    · show cX6_chooseStations_101 N R 51 (nI (L - 1)) (nI (L - 1)) J = _
      unfold cX6_chooseStations_101
      simp (disch := first | assumption | omega) only [obs, qle, ↓lm1, l0, qn_add, pk_mul, n_le, n_lt, n_eq, n_sM, n_Ms, n_Mlt, n_Mle, n_ltM, n_leM, ↓reduceIte, eq_self, if_pos, if_neg, qx, p0_0, p0_1, p0_2, p0_3, p2_0, p4_0, p4_1, p4_2, p4_3, p4_4, p4_5, p8_1, p8_5, p8_6, p8_7, p14_0, p14_4, p14_5, p18_1, p18_2, p51_4, p51_5, p51_8, p51_9, p51_10, p51_11, p51_12, p51_14, r3, w3, r6, w6, r7, w7, r9, w9, r10, w10, r11, w11, r12, w12, r15, w15, r16, w16, r17, w17, r19, w19, r20, w20, r53, w53, r54, w54, r55, w55, r56, w56, r57, w57, r58, w58, r59, w59, r60, w60, a1, a5, pt2, rt2, wt2, pt3, rt3, wt3, pt4, rt4, wt4, pt5, rt5, wt5, pm2, rm2, wm2, pm3, rm3, wm3, pm4, rm4, wm4, pm5, rm5, wm5, l1, l2, l3, l5, l6, l7, l8, l10, l11, l12, l31, l36, l63, l100, l1000, l1440, l1000000, l16777216]
    · by_cases e : m = L - 1
      · subst e
        refine ⟨(g1 _ (Nat.le_refl _)).1, ⟨⟨?_, ?_⟩, fun j h1 h2 => ?_⟩, fun h => by omega⟩
        · show B (L - 1) < (if L - 1 = L - 1 then jj else lv (L - 1))
          rw [if_pos rfl]; exact y1
        · show rgo NS ST CT GT W T v tr (L - 1 - (L - 1)) (L - 1) (if L - 1 = L - 1 then jj else lv (L - 1))
          rw [if_pos rfl, Nat.sub_self]; exact jr
        · show ST (tr (L - 1)) (if L - 1 = L - 1 then jj else lv (L - 1)) ≤ ST (tr (L - 1)) j
          rw [Nat.sub_self] at h2
          rw [if_pos rfl, huq j h2]
          exact Nat.le_refl _
      · obtain ⟨w1, ⟨w2, w3⟩, w4⟩ := g2 m (by omega)
        refine ⟨(g1 m (by omega)).1, ⟨?_, fun j h1 h2 => ?_⟩, fun _ => ?_⟩
        · show B m < (if m = L - 1 then jj else lv m) ∧ rgo NS ST CT GT W T v tr (L - 1 - m) m (if m = L - 1 then jj else lv m)
          rw [if_neg e]; exact w2
        · show ST (tr m) (if m = L - 1 then jj else lv m) ≤ ST (tr m) j
          rw [if_neg e]; exact w3 j h1 h2
        · show cc ST CT GT W (tr m) (if m = L - 1 then jj else lv m) (tr (m + 1)) (B (m + 1))
          rw [if_neg e]; exact w4
    · refine ⟨(g1 m (by omega)).2, ?_⟩
      show J 58 m = nI (if m = L - 1 then jj else lv m)
      by_cases e : m = L - 1
      · rw [if_pos e, e]; exact g4
      · rw [if_neg e]; exact (g2 m (by omega)).1
theorem findBest_ok {I : qI} (hN : 300000 ≤ N) (hL : LR R) (w : wb n NS ST CT GT (rD n day D) W F) (hF : FPx R I n NS ST CT GT D W day) (hT : T < 12) (hTF : T ≠ F) (hM : M ≤ 1440) : ok (fX6_findBest N R I 51 (nI F) (nI T) (nI M)) (fun y => (∀ a, a < 51 ∨ 60 < a → y.2 a = I a) ∧ ((SNo NS ST CT GT (rD n day D) W F M T ∧ y.1 = nI 0) ∨ ∃ v L tr b B lv, SN NS ST CT GT (rD n day D) W F M T v ∧ y.1 = nI 1 ∧ 0 < L ∧ L ≤ n ∧ (∀ k, k < L - 1 → ∀ t, ¬ ft NS ST CT GT (rD n day D) W F T v M k t) ∧ chs NS ST CT GT (rD n day D) W F T v M L tr b L ∧ B 0 = b 0 ∧ wy NS ST CT GT W T v L tr B lv ∧ FPx R y.2 n NS ST CT GT D W day ∧ y.2 51 6 = nI v ∧ y.2 51 7 = nI L ∧ ∀ m, m < L → tr m < n ∧ y.2 55 m = nI (tr m) ∧ y.2 57 m = nI (B m) ∧ y.2 58 m = nI (lv m))) := by
  have hn10 := w.1
  unfold fX6_findBest
  refine ok_bind (ok_mono (soonestAt_ok (N := N) hN hL w hM hF hT hTF) (fun y hy => ?_))
  obtain ⟨y1, J⟩ := y
  obtain ⟨k1, k2⟩ := hy
  simp only at k1 k2 ⊢
  refine ok_let ?_
  rw [qup_on]
  rcases k1 with ⟨q1, q2⟩ | ⟨v, q1, q2⟩
  · rw [if_pos (show y1 = (1000000 : Int32) by rw [q2, l1000000])]
    exact ok_some ⟨fun a ha => by show qup J 51 6 y1 a = _; rw [qup_ne _ _ _ (by omega), k2 a (by omega)], Or.inl ⟨q1, by rw [l0]⟩⟩
  · have hv := sn_lt w q1
    rw [if_neg (show ¬ y1 = (1000000 : Int32) by rw [q2, l1000000, n_eq (by omega) (by omega)]; omega)]
    generalize hJ0 : qup J 51 6 y1 = J0
    have e6 : J0 51 6 = nI v := by rw [← hJ0, qup_on]; exact q2
    have r0 : ∀ a, a ≠ 51 → a ≠ 53 → J0 a = I a := fun a h1 h2 => by rw [← hJ0, qup_ne _ _ _ h1, k2 a h2]
    have r1 : ∀ j, j ≠ 6 → J0 51 j = I 51 j := fun j hj => by rw [← hJ0, qup_off (by omega), k2 51 (by omega)]
    have hF0 : FPx R J0 n NS ST CT GT D W day := hF.congr hn10 (fun a ha => r0 a (by omega) (by omega)) (r1 1 (by omega)) (r1 2 (by omega)) (r1 3 (by omega))
    obtain ⟨kq, ⟨hk, hex⟩, hno⟩ := pk_least (fun k => k < n ∧ ∃ t, ft NS ST CT GT (rD n day D) W F T v M k t) (ft_n n NS ST CT GT (rD n day D) W F T v w q1)
    have hno2 : ∀ k, k < kq → ∀ t, ¬ ft NS ST CT GT (rD n day D) W F T v M k t := fun k h1 t h2 => hno k h1 ⟨by omega, t, h2⟩
    refine ok_bind (ok_mono (countLegs_ok (N := N) hN hL w hF0 e6 hv hT hM hk hex hno2) (fun J1 hJ1 => ?_))
    obtain ⟨a1, a2, a3, a4⟩ := hJ1
    have hF1 : FPx R J1 n NS ST CT GT D W day := hF0.congr hn10 (fun a ha => a3 a (by omega) (by omega)) (a4 1 (by omega)) (a4 2 (by omega)) (a4 3 (by omega))
    refine ok_bind (ok_mono (chooseTrains_ok (N := N) hN hL w hF1 a1 a2 (by omega) (by omega) hM (by rw [Nat.add_sub_cancel]; exact hex)) (fun J2 hJ2 => ?_))
    obtain ⟨tr, b, b1, b2, b3, b4⟩ := hJ2
    have hF2 : FPx R J2 n NS ST CT GT D W day := hF1.congr hn10 (fun a ha => b4 a (by omega) (by omega)) (by rw [b4 51 (by omega) (by omega)]) (by rw [b4 51 (by omega) (by omega)]) (by rw [b4 51 (by omega) (by omega)])
    refine ok_bind (ok_mono (chooseStations_ok (N := N) hN hL w hF2 (by rw [b4 51 (by omega) (by omega)]; exact a2) (by omega) (by omega) hT b1 b2 b3) (fun J3 hJ3 => ?_))
    obtain ⟨B, lv, c1, c2, c3, c4⟩ := hJ3
    have hF3 : FPx R J3 n NS ST CT GT D W day := hF2.congr hn10 (fun a ha => c4 a (by omega) (by omega) (by omega)) (by rw [c4 51 (by omega) (by omega) (by omega)]) (by rw [c4 51 (by omega) (by omega) (by omega)]) (by rw [c4 51 (by omega) (by omega) (by omega)])
    refine ok_some ⟨fun a ha => ?_, Or.inr ⟨v, kq + 1, tr, b, B, lv, q1, by rw [l1], by omega, by omega, by rw [Nat.add_sub_cancel]; exact hno2, b1, c1, c2, hF3, ?_, ?_, fun m hm => ?_⟩⟩
    · show J3 a = _
      rw [c4 a (by omega) (by omega) (by omega), b4 a (by omega) (by omega), a3 a (by omega) (by omega), r0 a (by omega) (by omega)]
    · show J3 51 6 = _
      rw [c4 51 (by omega) (by omega) (by omega), b4 51 (by omega) (by omega), a4 6 (by omega)]; exact e6
    · show J3 51 7 = _
      rw [c4 51 (by omega) (by omega) (by omega), b4 51 (by omega) (by omega)]; exact a2
    · show tr m < n ∧ J3 55 m = _ ∧ J3 57 m = _ ∧ J3 58 m = _
      rw [c4 55 (by omega) (by omega) (by omega)]
      exact ⟨(b2 m hm).2, (b2 m hm).1, c3 m hm⟩
end BEST7
