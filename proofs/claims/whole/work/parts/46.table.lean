/-! TABLE -/
/-- the book in numbers -/
def BK (I : qI) (NS : Nat → Nat) (ST CT GT : Nat → Nat → Nat) : Prop := ∀ t, t < 10 → NS t ≤ 7 ∧ I 113 t = nI (NS t) ∧ I (61 + 5 * t) 1 = nI (NS t) ∧ (∀ i, i < NS t → (I 114 (7 * t + i) = nI (ST t i) ∧ I (61 + 5 * t + 1) i = nI (ST t i) ∧ ST t i < 12) ∧ (I 115 (7 * t + i) = nI (CT t i) ∧ I (61 + 5 * t + 2) i = nI (CT t i)) ∧ (I 116 (7 * t + i) = nI (GT t i) ∧ I (61 + 5 * t + 3) i = nI (GT t i)) ∧ CT t i ≤ GT t i ∧ GT t i < 1440 ∧ I (61 + 5 * t + 4) (ST t i) = nI i) ∧ (∀ i, i + 1 < NS t → GT t i < CT t (i + 1)) ∧ ∀ s, s < 12 → (∀ i, i < NS t → ST t i ≠ s) → I (61 + 5 * t + 4) s = nM
theorem nI_tn {x : Int32} (h : 0 ≤ x.toInt) : x = nI x.toInt.toNat := nI_t (by omega)
theorem nM_t {x : Int32} (h : x.toInt = -1) : x = nM := by rw [ieq, h]; decide
theorem bk_of {I : qI} (hB : BookInv I) : BK I (fun t => (I 113 t).toInt.toNat) (fun t i => (I 114 (7 * t + i)).toInt.toNat) (fun t i => (I 115 (7 * t + i)).toInt.toNat) (fun t i => (I 116 (7 * t + i)).toInt.toNat) := by
  intro t ht
  obtain ⟨h1, h2, h3, h4, h5, h6, h7, h8⟩ := hB.2.2.2.2.2.2.1 t ht
  refine ⟨by show (I 113 t).toInt.toNat ≤ 7; omega, nI_tn h2, by rw [h1]; exact nI_tn h2, fun i hi => ?_, fun i hi => ?_, fun s hs hne => ?_⟩
  · have hi2 : (i : Int) < (I 113 t).toInt := by
      have : i < (I 113 t).toInt.toNat := hi
      omega
    obtain ⟨a1, a2, a3⟩ := h4 i hi2
    obtain ⟨b1, b2, b3, b4, b5⟩ := h5 i hi2
    refine ⟨⟨nI_tn b1, by rw [a1]; exact nI_tn b1, by show (I 114 (7 * t + i)).toInt.toNat < 12; omega⟩, ⟨nI_tn b3, by rw [a2]; exact nI_tn b3⟩, ⟨nI_tn (by omega), by rw [a3]; exact nI_tn (by omega)⟩, by show (I 115 (7 * t + i)).toInt.toNat ≤ (I 116 (7 * t + i)).toInt.toNat; omega, by show (I 116 (7 * t + i)).toInt.toNat < 1440; omega, nI_t (h7 i hi2)⟩
  · have hi2 : (i : Int) + 1 < (I 113 t).toInt := by
      have : i + 1 < (I 113 t).toInt.toNat := hi
      omega
    have := h6 i hi2
    have b3 := (h5 i (by omega)).2.2
    have b4 := (h5 (i + 1) (by omega)).2.2
    show (I 116 (7 * t + i)).toInt.toNat < (I 115 (7 * t + (i + 1))).toInt.toNat
    omega
  · refine nM_t (h8 s hs (fun i hi he => ?_))
    have := (h5 i hi).1
    refine hne i (by show i < (I 113 t).toInt.toNat; omega) ?_
    show (I 114 (7 * t + i)).toInt.toNat = s
    omega
theorem BK.congr {I J : qI} {NS : Nat → Nat} {ST CT GT : Nat → Nat → Nat} (h : BK I NS ST CT GT) (e : ∀ a, (61 ≤ a ∧ a < 111 ∨ 112 ≤ a ∧ a ≤ 116) → J a = I a) : BK J NS ST CT GT := by
  intro t ht
  rw [e 113 (by omega), e 114 (by omega), e 115 (by omega), e 116 (by omega), e _ (by omega), e (61 + 5 * t + 1) (by omega), e (61 + 5 * t + 2) (by omega), e (61 + 5 * t + 3) (by omega), e (61 + 5 * t + 4) (by omega)]
  exact h t ht
/-- what the row search keeps between tables -/
def TV (R : qR) (S : Nat) (I : qI) : Prop := ∃ kn len, KR R kn len ∧ (∃ k, len = 8 ^ k) ∧ KO kn len S I ∧ PV I ∧ R.2.2.1 ≤ 138 + len ∧ R.2.2.2 ≤ 265860 + 2 * len
/-- what both sides hold of the table -/
def TDx (I : qI) (c d : Nat) (ns o : Nat → Nat) (st cm gs rr : Nat → Nat → Nat) : Prop := (wf c ns st ∧ wm c ns cm gs ∧ (∀ m, m < c → 2 ≤ ns m) ∧ d ≤ 42) ∧ (RT c ns st I ∧ RF c ns cm gs I ∧ CM c ns st I ∧ CF c ns st cm gs I) ∧ (I 4 6 = nI c ∧ I 8 0 = nI d ∧ I 111 9 = nI d) ∧ ((∀ i, i < d → I 9 i = I 118 i) ∧ (∀ m, m < c → I 6 m = I 119 m)) ∧ ((∀ m j, m < c → j < ns m → I 7 (m * 7 + j) = nI (rr m j) ∧ I 124 (7 * m + j) = nI (rr m j) ∧ rr m j < d) ∧ (∀ m j k, m < c → k < ns m → j < k → rr m j < rr m k)) ∧ ((∀ i, i < c → I 15 i = nI (o i) ∧ I 125 i = nI (o i) ∧ o i < c) ∧ (∀ i j, i < j → j < c → o i ≠ o j)) ∧ (BR c (bB ns st cm gs) I ∧ I 14 1 = nI (bo c (bB ns st cm gs) o) ∧ I 14 2 = nI (sm (fun j => sm (fun i => kk (bB ns st cm gs) i j) j) c)) ∧ (∀ m, m < c → I 19 m = I 126 m) ∧ I 18 0 = I 111 20
def TD (I : qI) : Prop := ∃ c d ns o st cm gs rr, TDx I c d ns o st cm gs rr
theorem TD.same {I J : qI} (h : TD I) (e : TSame I J) : TD J := by
  obtain ⟨c, d, ns, o, st, cm, gs, rr, ⟨a1, a2, a3, a4⟩, ⟨b1, b2, b3, b4⟩, ⟨c1, c2, c3⟩, ⟨d1, d2⟩, ⟨e1, e2⟩, ⟨f1, f2⟩, ⟨g1, g2, g3⟩, h1, h2⟩ := h
  obtain ⟨s1, s2, s3, s4⟩ := e
  have hc6 := a1.1
  refine ⟨c, d, ns, o, st, cm, gs, rr, ⟨a1, a2, a3, a4⟩, ⟨b1.congr s3 (s1 _ (by omega)) (s1 _ (by omega)), ?_, b3.congr hc6 (fun a _ _ => s1 a (by omega)), b4.congr hc6 (fun a _ _ => s1 a (by omega))⟩, ?_, ?_, ⟨?_, e2⟩, ⟨?_, f2⟩, ?_, ?_, ?_⟩
  · unfold RF; rw [s1 122 (by omega), s1 123 (by omega)]; exact b2
  · rw [s1 4 (by omega), s1 8 (by omega), s2]; exact ⟨c1, c2, c3⟩
  · rw [s1 9 (by omega), s1 118 (by omega), s1 6 (by omega), s1 119 (by omega)]; exact ⟨d1, d2⟩
  · rw [s1 7 (by omega), s1 124 (by omega)]; exact e1
  · rw [s1 15 (by omega), s1 125 (by omega)]; exact f1
  · unfold BR; rw [s1 14 (by omega), s1 16 (by omega)]; exact ⟨g1, g2, g3⟩
  · rw [s1 19 (by omega), s1 126 (by omega)]; exact h1
  · rw [s1 18 (by omega), s4]; exact h2
theorem TV.same {R : qR} {S : Nat} {I J : qI} (h : TV R S I) (e : TSame I J) : TV R S J := by
  obtain ⟨kn, len, h1, h2, ⟨h3, h4, h5⟩, h6, h7⟩ := h
  have := h1.2.2.1
  refine ⟨kn, len, h1, h2, ⟨by rw [e.1 8 (by omega)]; exact h3, h4, fun x hx => by rw [e.1 kn (by omega)]; exact h5 x hx⟩, fun i hi => by rw [e.1 9 (by omega)]; exact h6 i hi, h7⟩
theorem TD.tabA {I : qI} (h : TD I) : TabA I := by
  obtain ⟨c, d, ns, o, st, cm, gs, rr, ⟨a1, a2, a3, a4⟩, ⟨b1, b2, b3, b4⟩, ⟨c1, c2, c3⟩, ⟨d1, d2⟩, ⟨e1, e2⟩, ⟨f1, f2⟩, ⟨g1, g2, g3⟩, h1, h2⟩ := h
  have hc6 := a1.1
  have tc := tI_nI (n := c) (by omega)
  have td := tI_nI (n := d) (by omega)
  have h10 := b1.1
  refine ⟨by rw [c1, h10], by rw [c2, c3], by rw [h10, tc]; omega, by rw [h10, tc]; omega, by rw [c3, td]; omega, by rw [c3, td]; omega, fun i hi => d1 i (by rw [c3, td] at hi; omega), fun m hm => ?_, fun j hj => ?_, h2⟩
  · rw [h10, tc] at hm
    exact ⟨d2 m (by omega), h1 m (by omega)⟩
  · rw [h10, tc] at hj
    obtain ⟨x1, x2, x3⟩ := f1 j (by omega)
    rw [x1, x2, h10, tc, tI_nI (by omega)]
    exact ⟨rfl, by omega, by omega⟩
/-- the class makes its table -/
theorem make7_ok {N X n S : Nat} {NS : Nat → Nat} {ST CT GT : Nat → Nat → Nat} {R : qR} {I : qI} (hN : 300000 ≤ N) (hL : LR R) (hK : BK I NS ST CT GT) (hV : TV R S I) (hS : S < 16777214) (hn : n ≤ 10) (hX : X < 2 ^ n) (hX0 : 0 < pc X n) (h6 : pc X n ≤ 6) (h2 : ∀ t, t < n → X.testBit t = true → 2 ≤ NS t) : ok (fX4_make N R I 4 1 (nI X)) (fun y => LR y.2 ∧ TV y.2 (S + 1) y.1 ∧ y.2.1 51 0 = R.1 51 0 ∧ ∃ (d : Nat) (rr : Nat → Nat → Nat) (V o : Nat → Nat), isD (pc X n) (fun k => NS (trk X n k)) (fun k i => ST (trk X n k) i) 0 d ∧ pw (pc X n) (fun k => NS (trk X n k)) (fun k i => ST (trk X n k) i) (pth y.1) 0 d 0 ∧ CM (pc X n) (fun k => NS (trk X n k)) (fun k i => ST (trk X n k) i) y.1 ∧ CF (pc X n) (fun k => NS (trk X n k)) (fun k i => ST (trk X n k) i) (fun k i => CT (trk X n k) i) (fun k i => GT (trk X n k) i) y.1 ∧ y.1 4 6 = nI (pc X n) ∧ y.1 8 0 = nI d ∧ (∀ i, i < d → y.1 9 i = nI (pth y.1 i)) ∧ (∀ m, m < pc X n → y.1 6 m = nI (trk X n m)) ∧ (∀ m j, m < pc X n → j < NS (trk X n m) → y.1 7 (m * 7 + j) = nI (rr m j) ∧ rr m j < d ∧ dg (cd (pc X n) (fun k => NS (trk X n k)) (fun k i => ST (trk X n k) i) (pth y.1) (rr m j)) m = j ∧ adv (fun k => NS (trk X n k)) (fun k i => ST (trk X n k) i) (cd (pc X n) (fun k => NS (trk X n k)) (fun k i => ST (trk X n k) i) (pth y.1) (rr m j)) (pth y.1 (rr m j)) m = 1) ∧ (∀ m j k, m < pc X n → k < NS (trk X n m) → j < k → rr m j < rr m k) ∧ BR (pc X n) (bB (fun k => NS (trk X n k)) (fun k i => ST (trk X n k) i) (fun k i => CT (trk X n k) i) (fun k i => GT (trk X n k) i)) y.1 ∧ VP (pc X n) (bB (fun k => NS (trk X n k)) (fun k i => ST (trk X n k) i) (fun k i => CT (trk X n k) i) (fun k i => GT (trk X n k) i)) V ∧ OP (pc X n) (bB (fun k => NS (trk X n k)) (fun k i => ST (trk X n k) i) (fun k i => CT (trk X n k) i) (fun k i => GT (trk X n k) i)) V o (pc X n) ∧ (∀ i, i < pc X n → y.1 15 i = nI (o i)) ∧ y.1 14 1 = nI (V 0) ∧ y.1 14 2 = nI (sm (fun j => sm (fun i => kk (bB (fun k => NS (trk X n k)) (fun k i => ST (trk X n k) i) (fun k i => CT (trk X n k) i) (fun k i => GT (trk X n k) i)) i j) j) (pc X n)) ∧ y.1 18 0 = nI (lrow (pc X n) (fun m => rr m 0) (fun m => rr m (NS (trk X n m) - 1)) d).2 ∧ (∀ m, m < pc X n → y.1 19 m = nI ((lrow (pc X n) (fun m => rr m 0) (fun m => rr m (NS (trk X n m) - 1)) d).1 m)) ∧ (∀ a, a < 4 ∨ (50 < a ∧ a < 138) → y.1 a = I a)) := by
  generalize hc : pc X n = c at *
  have hKt : ∀ k, k < c → trk X n k < 10 ∧ 2 ≤ NS (trk X n k) := fun k hk => by
    obtain ⟨t1, t2, t3⟩ := trk_ok (X := X) n k (by omega)
    exact ⟨by omega, h2 _ t1 t2⟩
  have hw : wf c (fun k => NS (trk X n k)) (fun k i => ST (trk X n k) i) := ⟨h6, fun k hk => (hK _ (hKt k hk).1).1, fun k i hk hi => ((hK _ (hKt k hk).1).2.2.2.1 i hi).1.2.2⟩
  have hwm : wm c (fun k => NS (trk X n k)) (fun k i => CT (trk X n k) i) (fun k i => GT (trk X n k) i) := fun k i hk hi => by
    obtain ⟨_, _, _, q1, q2, _⟩ := (hK _ (hKt k hk).1).2.2.2.1 i hi
    show CT (trk X n k) i < 1440 ∧ GT (trk X n k) i < 1440
    omega
  obtain ⟨kn, len, v1, v2, v3, v4, v5, v6⟩ := hV
  have hkn := v1.2.2.1
  unfold fX4_make
  refine ok_bind (ok_mono (take_ok (N := N) hN hL hn hX (by omega)) (fun J1 hJ1 => ?_))
  obtain ⟨j1, j2, j3⟩ := hJ1
  rw [hc] at j1 j2
  have hCM1 : CM c (fun k => NS (trk X n k)) (fun k i => ST (trk X n k) i) J1 := fun m hm => by
    obtain ⟨q1, q2, q3, q4⟩ := j2 m hm
    obtain ⟨z1, z2, z3, z4, z5, z6⟩ := hK _ (hKt m hm).1
    refine ⟨by rw [q2]; exact z3, fun i hi => ?_⟩
    have hi2 : i < NS (trk X n m) := hi
    rw [q3 1 i (by omega) (by omega) (by omega)]
    exact (z4 i hi).1.2.1
  have hCF1 : CF c (fun k => NS (trk X n k)) (fun k i => ST (trk X n k) i) (fun k i => CT (trk X n k) i) (fun k i => GT (trk X n k) i) J1 := fun m hm => by
    obtain ⟨q1, q2, q3, q4⟩ := j2 m hm
    obtain ⟨z1, z2, z3, z4, z5, z6⟩ := hK _ (hKt m hm).1
    refine ⟨fun i hi => ?_, fun s hs hne => ?_⟩
    · have hi2 : i < NS (trk X n m) := hi
      obtain ⟨y1, y2, y3, y4, y5, y6⟩ := z4 i hi
      have s12 := y1.2.2
      rw [q3 2 i (by omega) (by omega) (by omega), q3 3 i (by omega) (by omega) (by omega), q4 _ s12]
      exact ⟨y2.2, y3.2, y6⟩
    · rw [q4 s hs]
      exact z6 s hs hne
  refine ok_bindv (p4_3 hL) (ok_bindv (p4_0 hL) ?_)
  rw [j1]
  obtain ⟨d, hd⟩ := isD_ex c (fun k => NS (trk X n k)) (fun k i => ST (trk X n k) i) hw (pl_0 c _)
  have hd42 := isD_42 c _ _ hw (pl_0 c _) hd
  have hO1 : KO kn len S J1 := ⟨by rw [j3 8 (by omega)]; exact v3.1, v3.2.1, fun x hx => by rw [j3 kn (by omega)]; exact v3.2.2 x hx⟩
  have hV1 : PV J1 := fun i hi => by rw [j3 9 (by omega)]; exact v4 i hi
  refine ok_bind (ok_mono (search_ok (N := N) hN hL hw hX0 hCM1 v1 v2 hO1 hV1 hd) (fun y hy => ?_))
  obtain ⟨J2, R2⟩ := y
  obtain ⟨kn2, len2, hG, g2, g3, g4, g5, g6, g7, g8⟩ := hy
  simp only at hG g3 g4 g5 g6 g7 g8 ⊢
  obtain ⟨hL2, hK2, r1, r2⟩ := id hG
  have hkn2 := hK2.2.2.1
  have hCM2 : CM c (fun k => NS (trk X n k)) (fun k i => ST (trk X n k) i) J2 := hCM1.congr h6 (fun a h1 h2 => g8 a (by omega) (by omega))
  have h46 : J2 4 6 = nI c := by rw [g8 4 (by omega) (by omega)]; exact j1
  have h9 : ∀ i, i < d → J2 9 i = nI (pth J2 i) := fun i hi => (g5.at (by omega)).2
  refine ok_bind (ok_mono (placeAll_ok (N := N) hN hL2 hw hCM2 hd g7 g6 h9 h46) (fun J3 hJ3 => ?_))
  obtain ⟨k1, k2⟩ := hJ3
  have hCM3 : CM c (fun k => NS (trk X n k)) (fun k i => ST (trk X n k) i) J3 := hCM2.congr h6 (fun a h1 h2 => k2 a (by omega))
  have hCF3 : CF c (fun k => NS (trk X n k)) (fun k i => ST (trk X n k) i) (fun k i => CT (trk X n k) i) (fun k i => GT (trk X n k) i) J3 := hCF1.congr h6 (fun a h1 h2 => by rw [k2 a (by omega), g8 a (by omega) (by omega)])
  refine ok_bindv (p4_4 hL2) (ok_bindv (p4_0 hL2) ?_)
  rw [k2 4 (by omega), h46]
  refine ok_bind (ok_mono (arrange_ok (N := N) hN hL2 hw hCM3 hCF3 hwm) (fun J4 hJ4 => ?_))
  obtain ⟨m1, ⟨V, o, m2, m3, m4, m5⟩, m6, m7⟩ := hJ4
  obtain ⟨rr, rr1, rr2⟩ := rr_ex hw hd g7
  have hr7 : ∀ m j, m < c → j < NS (trk X n m) → J4 7 (m * 7 + j) = nI (rr m j) := fun m j hm hj => by
    obtain ⟨q1, q2, q3⟩ := rr1 m j hm hj
    have := k1 m hm (rr m j) q1 q3
    rw [q2] at this
    rw [m7 7 (by omega)]
    exact this
  have hns : ∀ m, m < c → J4 (21 + 5 * m) 1 = nI (NS (trk X n m)) ∧ 1 ≤ NS (trk X n m) ∧ NS (trk X n m) ≤ 7 ∧ J4 7 (m * 7) = nI (rr m 0) ∧ J4 7 (m * 7 + NS (trk X n m) - 1) = nI (rr m (NS (trk X n m) - 1)) ∧ rr m 0 ≤ rr m (NS (trk X n m) - 1) ∧ rr m (NS (trk X n m) - 1) < d := fun m hm => by
    have q2 := (hKt m hm).2
    have q7 : NS (trk X n m) ≤ 7 := hw.2.1 m hm
    refine ⟨by rw [m7 _ (by omega)]; exact (hCM3 m hm).1, by omega, q7, hr7 m 0 hm (by omega), ?_, ?_, (rr1 m _ hm (show NS (trk X n m) - 1 < NS (trk X n m) by omega)).1⟩
    · rw [show m * 7 + NS (trk X n m) - 1 = m * 7 + (NS (trk X n m) - 1) by omega]
      exact hr7 m _ hm (by omega)
    · exact Nat.le_of_lt (rr2 m 0 (NS (trk X n m) - 1) hm (show NS (trk X n m) - 1 < NS (trk X n m) by omega) (by omega))
  refine ok_bind (ok_mono (planLanes_ok (N := N) (ns := fun m => NS (trk X n m)) (fr := fun m => rr m 0) (la := fun m => rr m (NS (trk X n m) - 1)) hN hL2 h6 hd42 (by rw [m7 4 (by omega), k2 4 (by omega)]; exact h46) (by rw [m7 8 (by omega), k2 8 (by omega)]; exact g6) hns) (fun J5 hJ5 => ?_))
  obtain ⟨p1, p2, p3⟩ := hJ5
  have e9 : J5 9 = J2 9 := by rw [p3 9 (by omega), m7 9 (by omega), k2 9 (by omega)]
  have ep : pth J5 = pth J2 := by funext i; unfold pth; rw [e9]
  have e8 : J5 8 = J2 8 := by rw [p3 8 (by omega), m7 8 (by omega), k2 8 (by omega)]
  have e4 : J5 4 = J2 4 := by rw [p3 4 (by omega), m7 4 (by omega), k2 4 (by omega)]
  refine ok_some ⟨hL2, ⟨kn2, len2, hK2, g2, ⟨?_, by omega, fun x hx => ?_⟩, fun i hi => ?_, ?_⟩, r1, d, rr, V, o, hd, ?_, ?_, ?_, ?_, ?_, fun i hi => ?_, fun m hm => ?_, fun m j hm hj => ?_, rr2, ?_, m2, m3, fun i hi => ?_, ?_, ?_, p1, p2, fun a ha => ?_⟩
  · show J5 8 4 = _
    rw [e8]; exact g3
  · show ∃ v, J5 kn2 x = _ ∧ _
    rw [p3 kn2 (by omega), m7 kn2 (by omega), k2 kn2 (by omega)]; exact g4 x hx
  · show ∃ x, x < 12 ∧ J5 9 i = nI x
    rw [e9]; exact g5 i hi
  · show R2.2.2.1 ≤ 138 + len2 ∧ R2.2.2.2 ≤ 265860 + 2 * len2
    rcases r2 with ⟨q1, q2, q3⟩ | ⟨q1, q2, q3⟩
    · rw [q1, q3]; exact ⟨v5, v6⟩
    · have : 0 < len := by obtain ⟨k, hk⟩ := v2; rw [hk]; exact Nat.pow_pos (by omega)
      omega
  · show pw c _ _ (pth J5) 0 d 0
    rw [ep]; exact g7
  · exact hCM3.congr h6 (fun a h1 h2 => by show J5 a = _; rw [p3 a (by omega), m7 a (by omega)])
  · exact hCF3.congr h6 (fun a h1 h2 => by show J5 a = _; rw [p3 a (by omega), m7 a (by omega)])
  · show J5 4 6 = _
    rw [e4]; exact h46
  · show J5 8 0 = _
    rw [e8]; exact g6
  · show J5 9 i = nI (pth J5 i)
    rw [ep, e9]; exact h9 i hi
  · show J5 6 m = _
    rw [p3 6 (by omega), m7 6 (by omega), k2 6 (by omega), g8 6 (by omega) (by omega)]; exact (j2 m hm).1
  · show J5 7 _ = _ ∧ _ ∧ dg (cd c _ _ (pth J5) _) m = j ∧ adv _ _ (cd c _ _ (pth J5) _) (pth J5 _) m = 1
    rw [p3 7 (by omega), ep]
    exact ⟨hr7 m j hm hj, rr1 m j hm hj⟩
  · show BR c _ J5
    unfold BR
    rw [p3 14 (by omega), p3 16 (by omega)]; exact m1
  · show J5 15 i = _
    rw [p3 15 (by omega)]; exact m4 i hi
  · show J5 14 1 = _
    rw [p3 14 (by omega)]; exact m5
  · show J5 14 2 = _
    rw [p3 14 (by omega)]; exact m6
  · show J5 a = _
    rw [p3 a (by omega), m7 a (by omega), k2 a (by omega), g8 a (by omega) (by omega), j3 a (by omega)]
